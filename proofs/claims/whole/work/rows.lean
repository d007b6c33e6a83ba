section
-- ===== PART A: goes FIRST, ahead of the names: the tables' words, and 'selects' of the private methods out of them =====
/-- a private method of a class that the tables say can be made, by its rows of tables_1 -/
def lw_okq (q : MethodName × Nat) : Prop := (q.1.cls ≠ "java/lang/invoke/MethodHandle" ∧ q.1.cls ≠ "java/lang/invoke/VarHandle") ∧ Cond.instantiable q.1.cls q.2 ∈ tables_1 ∧ Cond.privateMethod q.1 ∈ tables_1 ∧ Cond.instanceMethod q.1 ∈ tables_1
theorem lw_p0 : lw_okq (⟨"java/lang/Throwable", "fillInStackTrace", "(I)Ljava/lang/Throwable;"⟩, 6) := ⟨⟨by decide +kernel, by decide +kernel⟩, List.mem_of_getElem? (i := 432) (by decide +kernel), List.mem_of_getElem? (i := 430) (by decide +kernel), List.mem_of_getElem? (i := 431) (by decide +kernel)⟩
theorem lw_p1 : lw_okq (⟨"GossipHead", "mixFeedersAndPlaces", "(J)J"⟩, 5) := ⟨⟨by decide +kernel, by decide +kernel⟩, List.mem_of_getElem? (i := 18) (by decide +kernel), List.mem_of_getElem? (i := 466) (by decide +kernel), List.mem_of_getElem? (i := 467) (by decide +kernel)⟩
theorem lw_p2 : lw_okq (⟨"GossipHead", "checkFeeder", "(I)V"⟩, 5) := ⟨⟨by decide +kernel, by decide +kernel⟩, List.mem_of_getElem? (i := 18) (by decide +kernel), List.mem_of_getElem? (i := 474) (by decide +kernel), List.mem_of_getElem? (i := 475) (by decide +kernel)⟩
theorem lw_p3 : lw_okq (⟨"GossipHead", "mixNozzle", "(JI)J"⟩, 5) := ⟨⟨by decide +kernel, by decide +kernel⟩, List.mem_of_getElem? (i := 18) (by decide +kernel), List.mem_of_getElem? (i := 499) (by decide +kernel), List.mem_of_getElem? (i := 500) (by decide +kernel)⟩
theorem lw_p4 : lw_okq (⟨"GossipHead", "addPartsOfText", "()I"⟩, 5) := ⟨⟨by decide +kernel, by decide +kernel⟩, List.mem_of_getElem? (i := 18) (by decide +kernel), List.mem_of_getElem? (i := 632) (by decide +kernel), List.mem_of_getElem? (i := 633) (by decide +kernel)⟩
theorem lw_p5 : lw_okq (⟨"GossipHead", "addPartOfText", "()Z"⟩, 5) := ⟨⟨by decide +kernel, by decide +kernel⟩, List.mem_of_getElem? (i := 18) (by decide +kernel), List.mem_of_getElem? (i := 637) (by decide +kernel), List.mem_of_getElem? (i := 638) (by decide +kernel)⟩
theorem lw_p6 : lw_okq (⟨"GossipHeadModel", "save", "()V"⟩, 15) := ⟨⟨by decide +kernel, by decide +kernel⟩, List.mem_of_getElem? (i := 706) (by decide +kernel), List.mem_of_getElem? (i := 778) (by decide +kernel), List.mem_of_getElem? (i := 779) (by decide +kernel)⟩
theorem lw_p7 : lw_okq (⟨"GossipHeadModel", "addsFeeder", "(IIIII)I"⟩, 15) := ⟨⟨by decide +kernel, by decide +kernel⟩, List.mem_of_getElem? (i := 706) (by decide +kernel), List.mem_of_getElem? (i := 782) (by decide +kernel), List.mem_of_getElem? (i := 783) (by decide +kernel)⟩
theorem lw_p8 : lw_okq (⟨"GossipHeadModel", "addsPlace", "(II)I"⟩, 15) := ⟨⟨by decide +kernel, by decide +kernel⟩, List.mem_of_getElem? (i := 706) (by decide +kernel), List.mem_of_getElem? (i := 790) (by decide +kernel), List.mem_of_getElem? (i := 791) (by decide +kernel)⟩
theorem lw_p9 : lw_okq (⟨"GossipHeadModel", "isFeeder", "(I)Z"⟩, 15) := ⟨⟨by decide +kernel, by decide +kernel⟩, List.mem_of_getElem? (i := 706) (by decide +kernel), List.mem_of_getElem? (i := 798) (by decide +kernel), List.mem_of_getElem? (i := 799) (by decide +kernel)⟩
theorem lw_p10 : lw_okq (⟨"GossipHeadModel", "ofFeeder", "(II)I"⟩, 15) := ⟨⟨by decide +kernel, by decide +kernel⟩, List.mem_of_getElem? (i := 706) (by decide +kernel), List.mem_of_getElem? (i := 802) (by decide +kernel), List.mem_of_getElem? (i := 803) (by decide +kernel)⟩
theorem lw_p11 : lw_okq (⟨"GossipHeadModel", "ofNozzle", "(II)I"⟩, 15) := ⟨⟨by decide +kernel, by decide +kernel⟩, List.mem_of_getElem? (i := 706) (by decide +kernel), List.mem_of_getElem? (i := 817) (by decide +kernel), List.mem_of_getElem? (i := 818) (by decide +kernel)⟩
theorem lw_p12 : lw_okq (⟨"GossipHeadModel", "placesThat", "(I)I"⟩, 15) := ⟨⟨by decide +kernel, by decide +kernel⟩, List.mem_of_getElem? (i := 706) (by decide +kernel), List.mem_of_getElem? (i := 825) (by decide +kernel), List.mem_of_getElem? (i := 826) (by decide +kernel)⟩
theorem lw_p13 : lw_okq (⟨"GossipHeadModel", "ofPlace", "(II)I"⟩, 15) := ⟨⟨by decide +kernel, by decide +kernel⟩, List.mem_of_getElem? (i := 706) (by decide +kernel), List.mem_of_getElem? (i := 829) (by decide +kernel), List.mem_of_getElem? (i := 830) (by decide +kernel)⟩
theorem lw_p14 : lw_okq (⟨"GossipHeadModel", "empty", "(I)V"⟩, 15) := ⟨⟨by decide +kernel, by decide +kernel⟩, List.mem_of_getElem? (i := 706) (by decide +kernel), List.mem_of_getElem? (i := 833) (by decide +kernel), List.mem_of_getElem? (i := 834) (by decide +kernel)⟩
theorem lw_p15 : lw_okq (⟨"GossipHeadModel", "tours", "(I)I"⟩, 15) := ⟨⟨by decide +kernel, by decide +kernel⟩, List.mem_of_getElem? (i := 706) (by decide +kernel), List.mem_of_getElem? (i := 854) (by decide +kernel), List.mem_of_getElem? (i := 855) (by decide +kernel)⟩
def lw_privs_1 : List (MethodName × Nat) := [(⟨"java/lang/Throwable", "fillInStackTrace", "(I)Ljava/lang/Throwable;"⟩, 6), (⟨"GossipHead", "mixFeedersAndPlaces", "(J)J"⟩, 5), (⟨"GossipHead", "checkFeeder", "(I)V"⟩, 5), (⟨"GossipHead", "mixNozzle", "(JI)J"⟩, 5), (⟨"GossipHead", "addPartsOfText", "()I"⟩, 5), (⟨"GossipHead", "addPartOfText", "()Z"⟩, 5), (⟨"GossipHeadModel", "save", "()V"⟩, 15), (⟨"GossipHeadModel", "addsFeeder", "(IIIII)I"⟩, 15), (⟨"GossipHeadModel", "addsPlace", "(II)I"⟩, 15), (⟨"GossipHeadModel", "isFeeder", "(I)Z"⟩, 15), (⟨"GossipHeadModel", "ofFeeder", "(II)I"⟩, 15), (⟨"GossipHeadModel", "ofNozzle", "(II)I"⟩, 15), (⟨"GossipHeadModel", "placesThat", "(I)I"⟩, 15), (⟨"GossipHeadModel", "ofPlace", "(II)I"⟩, 15), (⟨"GossipHeadModel", "empty", "(I)V"⟩, 15), (⟨"GossipHeadModel", "tours", "(I)I"⟩, 15)]
theorem lw_r1 : ∀ q ∈ lw_privs_1, lw_okq q := List.forall_mem_cons.mpr ⟨lw_p0, List.forall_mem_cons.mpr ⟨lw_p1, List.forall_mem_cons.mpr ⟨lw_p2, List.forall_mem_cons.mpr ⟨lw_p3, List.forall_mem_cons.mpr ⟨lw_p4, List.forall_mem_cons.mpr ⟨lw_p5, List.forall_mem_cons.mpr ⟨lw_p6, List.forall_mem_cons.mpr ⟨lw_p7, List.forall_mem_cons.mpr ⟨lw_p8, List.forall_mem_cons.mpr ⟨lw_p9, List.forall_mem_cons.mpr ⟨lw_p10, List.forall_mem_cons.mpr ⟨lw_p11, List.forall_mem_cons.mpr ⟨lw_p12, List.forall_mem_cons.mpr ⟨lw_p13, List.forall_mem_cons.mpr ⟨lw_p14, List.forall_mem_cons.mpr ⟨lw_p15, fun _ h => absurd h List.not_mem_nil⟩⟩⟩⟩⟩⟩⟩⟩⟩⟩⟩⟩⟩⟩⟩⟩
theorem lw_p16 : lw_okq (⟨"GossipHeadModel", "tourOnce", "()I"⟩, 15) := ⟨⟨by decide +kernel, by decide +kernel⟩, List.mem_of_getElem? (i := 706) (by decide +kernel), List.mem_of_getElem? (i := 858) (by decide +kernel), List.mem_of_getElem? (i := 859) (by decide +kernel)⟩
theorem lw_p17 : lw_okq (⟨"GossipHeadModel", "layAims", "()V"⟩, 15) := ⟨⟨by decide +kernel, by decide +kernel⟩, List.mem_of_getElem? (i := 706) (by decide +kernel), List.mem_of_getElem? (i := 862) (by decide +kernel), List.mem_of_getElem? (i := 863) (by decide +kernel)⟩
theorem lw_p18 : lw_okq (⟨"GossipHeadModel", "aimOf", "(I)I"⟩, 15) := ⟨⟨by decide +kernel, by decide +kernel⟩, List.mem_of_getElem? (i := 706) (by decide +kernel), List.mem_of_getElem? (i := 866) (by decide +kernel), List.mem_of_getElem? (i := 867) (by decide +kernel)⟩
theorem lw_p19 : lw_okq (⟨"GossipHeadModel", "choiceOf", "(II)I"⟩, 15) := ⟨⟨by decide +kernel, by decide +kernel⟩, List.mem_of_getElem? (i := 706) (by decide +kernel), List.mem_of_getElem? (i := 870) (by decide +kernel), List.mem_of_getElem? (i := 871) (by decide +kernel)⟩
theorem lw_p20 : lw_okq (⟨"GossipHeadModel", "gives", "(II)Z"⟩, 15) := ⟨⟨by decide +kernel, by decide +kernel⟩, List.mem_of_getElem? (i := 706) (by decide +kernel), List.mem_of_getElem? (i := 874) (by decide +kernel), List.mem_of_getElem? (i := 875) (by decide +kernel)⟩
theorem lw_p21 : lw_okq (⟨"GossipHeadModel", "isBetter", "(III)Z"⟩, 15) := ⟨⟨by decide +kernel, by decide +kernel⟩, List.mem_of_getElem? (i := 706) (by decide +kernel), List.mem_of_getElem? (i := 878) (by decide +kernel), List.mem_of_getElem? (i := 879) (by decide +kernel)⟩
theorem lw_p22 : lw_okq (⟨"GossipHeadModel", "trustOf", "(II)I"⟩, 15) := ⟨⟨by decide +kernel, by decide +kernel⟩, List.mem_of_getElem? (i := 706) (by decide +kernel), List.mem_of_getElem? (i := 882) (by decide +kernel), List.mem_of_getElem? (i := 883) (by decide +kernel)⟩
theorem lw_p23 : lw_okq (⟨"GossipHeadModel", "isAim", "(II)Z"⟩, 15) := ⟨⟨by decide +kernel, by decide +kernel⟩, List.mem_of_getElem? (i := 706) (by decide +kernel), List.mem_of_getElem? (i := 889) (by decide +kernel), List.mem_of_getElem? (i := 890) (by decide +kernel)⟩
theorem lw_p24 : lw_okq (⟨"GossipHeadModel", "pick", "(I)V"⟩, 15) := ⟨⟨by decide +kernel, by decide +kernel⟩, List.mem_of_getElem? (i := 706) (by decide +kernel), List.mem_of_getElem? (i := 893) (by decide +kernel), List.mem_of_getElem? (i := 894) (by decide +kernel)⟩
theorem lw_p25 : lw_okq (⟨"GossipHeadModel", "tries", "(II)Z"⟩, 15) := ⟨⟨by decide +kernel, by decide +kernel⟩, List.mem_of_getElem? (i := 706) (by decide +kernel), List.mem_of_getElem? (i := 897) (by decide +kernel), List.mem_of_getElem? (i := 898) (by decide +kernel)⟩
theorem lw_p26 : lw_okq (⟨"GossipHeadModel", "go", "(II)V"⟩, 15) := ⟨⟨by decide +kernel, by decide +kernel⟩, List.mem_of_getElem? (i := 706) (by decide +kernel), List.mem_of_getElem? (i := 901) (by decide +kernel), List.mem_of_getElem? (i := 902) (by decide +kernel)⟩
theorem lw_p27 : lw_okq (⟨"GossipHeadModel", "draw", "(I)I"⟩, 15) := ⟨⟨by decide +kernel, by decide +kernel⟩, List.mem_of_getElem? (i := 706) (by decide +kernel), List.mem_of_getElem? (i := 905) (by decide +kernel), List.mem_of_getElem? (i := 906) (by decide +kernel)⟩
theorem lw_p28 : lw_okq (⟨"GossipHeadModel", "trustMore", "(III)V"⟩, 15) := ⟨⟨by decide +kernel, by decide +kernel⟩, List.mem_of_getElem? (i := 706) (by decide +kernel), List.mem_of_getElem? (i := 913) (by decide +kernel), List.mem_of_getElem? (i := 914) (by decide +kernel)⟩
theorem lw_p29 : lw_okq (⟨"GossipHeadModel", "look", "(I)V"⟩, 15) := ⟨⟨by decide +kernel, by decide +kernel⟩, List.mem_of_getElem? (i := 706) (by decide +kernel), List.mem_of_getElem? (i := 917) (by decide +kernel), List.mem_of_getElem? (i := 918) (by decide +kernel)⟩
theorem lw_p30 : lw_okq (⟨"GossipHeadModel", "lay", "(I)I"⟩, 15) := ⟨⟨by decide +kernel, by decide +kernel⟩, List.mem_of_getElem? (i := 706) (by decide +kernel), List.mem_of_getElem? (i := 921) (by decide +kernel), List.mem_of_getElem? (i := 922) (by decide +kernel)⟩
theorem lw_p31 : lw_okq (⟨"GossipHeadModel", "gossip", "(I)V"⟩, 15) := ⟨⟨by decide +kernel, by decide +kernel⟩, List.mem_of_getElem? (i := 706) (by decide +kernel), List.mem_of_getElem? (i := 925) (by decide +kernel), List.mem_of_getElem? (i := 926) (by decide +kernel)⟩
def lw_privs_2 : List (MethodName × Nat) := [(⟨"GossipHeadModel", "tourOnce", "()I"⟩, 15), (⟨"GossipHeadModel", "layAims", "()V"⟩, 15), (⟨"GossipHeadModel", "aimOf", "(I)I"⟩, 15), (⟨"GossipHeadModel", "choiceOf", "(II)I"⟩, 15), (⟨"GossipHeadModel", "gives", "(II)Z"⟩, 15), (⟨"GossipHeadModel", "isBetter", "(III)Z"⟩, 15), (⟨"GossipHeadModel", "trustOf", "(II)I"⟩, 15), (⟨"GossipHeadModel", "isAim", "(II)Z"⟩, 15), (⟨"GossipHeadModel", "pick", "(I)V"⟩, 15), (⟨"GossipHeadModel", "tries", "(II)Z"⟩, 15), (⟨"GossipHeadModel", "go", "(II)V"⟩, 15), (⟨"GossipHeadModel", "draw", "(I)I"⟩, 15), (⟨"GossipHeadModel", "trustMore", "(III)V"⟩, 15), (⟨"GossipHeadModel", "look", "(I)V"⟩, 15), (⟨"GossipHeadModel", "lay", "(I)I"⟩, 15), (⟨"GossipHeadModel", "gossip", "(I)V"⟩, 15)]
theorem lw_r2 : ∀ q ∈ lw_privs_2, lw_okq q := List.forall_mem_cons.mpr ⟨lw_p16, List.forall_mem_cons.mpr ⟨lw_p17, List.forall_mem_cons.mpr ⟨lw_p18, List.forall_mem_cons.mpr ⟨lw_p19, List.forall_mem_cons.mpr ⟨lw_p20, List.forall_mem_cons.mpr ⟨lw_p21, List.forall_mem_cons.mpr ⟨lw_p22, List.forall_mem_cons.mpr ⟨lw_p23, List.forall_mem_cons.mpr ⟨lw_p24, List.forall_mem_cons.mpr ⟨lw_p25, List.forall_mem_cons.mpr ⟨lw_p26, List.forall_mem_cons.mpr ⟨lw_p27, List.forall_mem_cons.mpr ⟨lw_p28, List.forall_mem_cons.mpr ⟨lw_p29, List.forall_mem_cons.mpr ⟨lw_p30, List.forall_mem_cons.mpr ⟨lw_p31, fun _ h => absurd h List.not_mem_nil⟩⟩⟩⟩⟩⟩⟩⟩⟩⟩⟩⟩⟩⟩⟩⟩
theorem lw_p32 : lw_okq (⟨"GossipHeadModel", "inspects", "()I"⟩, 15) := ⟨⟨by decide +kernel, by decide +kernel⟩, List.mem_of_getElem? (i := 706) (by decide +kernel), List.mem_of_getElem? (i := 933) (by decide +kernel), List.mem_of_getElem? (i := 934) (by decide +kernel)⟩
theorem lw_p33 : lw_okq (⟨"GossipHeadModel", "rightUpTo", "()I"⟩, 15) := ⟨⟨by decide +kernel, by decide +kernel⟩, List.mem_of_getElem? (i := 706) (by decide +kernel), List.mem_of_getElem? (i := 949) (by decide +kernel), List.mem_of_getElem? (i := 950) (by decide +kernel)⟩
theorem lw_p34 : lw_okq (⟨"GossipHeadModel", "takes", "(I)Z"⟩, 15) := ⟨⟨by decide +kernel, by decide +kernel⟩, List.mem_of_getElem? (i := 706) (by decide +kernel), List.mem_of_getElem? (i := 953) (by decide +kernel), List.mem_of_getElem? (i := 954) (by decide +kernel)⟩
theorem lw_p35 : lw_okq (⟨"GossipHeadModel", "takesDigit", "(I)Z"⟩, 15) := ⟨⟨by decide +kernel, by decide +kernel⟩, List.mem_of_getElem? (i := 706) (by decide +kernel), List.mem_of_getElem? (i := 957) (by decide +kernel), List.mem_of_getElem? (i := 958) (by decide +kernel)⟩
theorem lw_p36 : lw_okq (⟨"GossipHeadModel", "adds", "(I)Z"⟩, 15) := ⟨⟨by decide +kernel, by decide +kernel⟩, List.mem_of_getElem? (i := 706) (by decide +kernel), List.mem_of_getElem? (i := 965) (by decide +kernel), List.mem_of_getElem? (i := 966) (by decide +kernel)⟩
theorem lw_p37 : lw_okq (⟨"GossipHeadModel", "feederNow", "(II)I"⟩, 15) := ⟨⟨by decide +kernel, by decide +kernel⟩, List.mem_of_getElem? (i := 706) (by decide +kernel), List.mem_of_getElem? (i := 977) (by decide +kernel), List.mem_of_getElem? (i := 978) (by decide +kernel)⟩
theorem lw_p38 : lw_okq (⟨"GossipHeadModel", "isPlace", "(I)Z"⟩, 15) := ⟨⟨by decide +kernel, by decide +kernel⟩, List.mem_of_getElem? (i := 706) (by decide +kernel), List.mem_of_getElem? (i := 985) (by decide +kernel), List.mem_of_getElem? (i := 986) (by decide +kernel)⟩
theorem lw_p39 : lw_okq (⟨"GossipHeadModel", "counted", "(I)I"⟩, 15) := ⟨⟨by decide +kernel, by decide +kernel⟩, List.mem_of_getElem? (i := 706) (by decide +kernel), List.mem_of_getElem? (i := 1001) (by decide +kernel), List.mem_of_getElem? (i := 1002) (by decide +kernel)⟩
theorem lw_p40 : lw_okq (⟨"GossipHeadModel", "sumOfNozzles", "(I)I"⟩, 15) := ⟨⟨by decide +kernel, by decide +kernel⟩, List.mem_of_getElem? (i := 706) (by decide +kernel), List.mem_of_getElem? (i := 1005) (by decide +kernel), List.mem_of_getElem? (i := 1006) (by decide +kernel)⟩
theorem lw_p41 : lw_okq (⟨"GossipHeadModel", "allParts", "()I"⟩, 15) := ⟨⟨by decide +kernel, by decide +kernel⟩, List.mem_of_getElem? (i := 706) (by decide +kernel), List.mem_of_getElem? (i := 1009) (by decide +kernel), List.mem_of_getElem? (i := 1010) (by decide +kernel)⟩
theorem lw_p42 : lw_okq (⟨"GossipHeadModel", "touredThen", "(II)I"⟩, 15) := ⟨⟨by decide +kernel, by decide +kernel⟩, List.mem_of_getElem? (i := 706) (by decide +kernel), List.mem_of_getElem? (i := 1021) (by decide +kernel), List.mem_of_getElem? (i := 1022) (by decide +kernel)⟩
theorem lw_p43 : lw_okq (⟨"GossipHeadModel", "keep", "()V"⟩, 15) := ⟨⟨by decide +kernel, by decide +kernel⟩, List.mem_of_getElem? (i := 706) (by decide +kernel), List.mem_of_getElem? (i := 1025) (by decide +kernel), List.mem_of_getElem? (i := 1026) (by decide +kernel)⟩
theorem lw_p44 : lw_okq (⟨"GossipHeadModel", "layBack", "()V"⟩, 15) := ⟨⟨by decide +kernel, by decide +kernel⟩, List.mem_of_getElem? (i := 706) (by decide +kernel), List.mem_of_getElem? (i := 1029) (by decide +kernel), List.mem_of_getElem? (i := 1030) (by decide +kernel)⟩
theorem lw_p45 : lw_okq (⟨"GossipHeadModel", "aimNow", "(I)I"⟩, 15) := ⟨⟨by decide +kernel, by decide +kernel⟩, List.mem_of_getElem? (i := 706) (by decide +kernel), List.mem_of_getElem? (i := 1041) (by decide +kernel), List.mem_of_getElem? (i := 1042) (by decide +kernel)⟩
theorem lw_p46 : lw_okq (⟨"GossipHeadModel", "neededNow", "()I"⟩, 15) := ⟨⟨by decide +kernel, by decide +kernel⟩, List.mem_of_getElem? (i := 706) (by decide +kernel), List.mem_of_getElem? (i := 1049) (by decide +kernel), List.mem_of_getElem? (i := 1050) (by decide +kernel)⟩
theorem lw_p47 : lw_okq (⟨"GossipHeadModel", "rumoredNow", "()I"⟩, 15) := ⟨⟨by decide +kernel, by decide +kernel⟩, List.mem_of_getElem? (i := 706) (by decide +kernel), List.mem_of_getElem? (i := 1057) (by decide +kernel), List.mem_of_getElem? (i := 1058) (by decide +kernel)⟩
def lw_privs_3 : List (MethodName × Nat) := [(⟨"GossipHeadModel", "inspects", "()I"⟩, 15), (⟨"GossipHeadModel", "rightUpTo", "()I"⟩, 15), (⟨"GossipHeadModel", "takes", "(I)Z"⟩, 15), (⟨"GossipHeadModel", "takesDigit", "(I)Z"⟩, 15), (⟨"GossipHeadModel", "adds", "(I)Z"⟩, 15), (⟨"GossipHeadModel", "feederNow", "(II)I"⟩, 15), (⟨"GossipHeadModel", "isPlace", "(I)Z"⟩, 15), (⟨"GossipHeadModel", "counted", "(I)I"⟩, 15), (⟨"GossipHeadModel", "sumOfNozzles", "(I)I"⟩, 15), (⟨"GossipHeadModel", "allParts", "()I"⟩, 15), (⟨"GossipHeadModel", "touredThen", "(II)I"⟩, 15), (⟨"GossipHeadModel", "keep", "()V"⟩, 15), (⟨"GossipHeadModel", "layBack", "()V"⟩, 15), (⟨"GossipHeadModel", "aimNow", "(I)I"⟩, 15), (⟨"GossipHeadModel", "neededNow", "()I"⟩, 15), (⟨"GossipHeadModel", "rumoredNow", "()I"⟩, 15)]
theorem lw_r3 : ∀ q ∈ lw_privs_3, lw_okq q := List.forall_mem_cons.mpr ⟨lw_p32, List.forall_mem_cons.mpr ⟨lw_p33, List.forall_mem_cons.mpr ⟨lw_p34, List.forall_mem_cons.mpr ⟨lw_p35, List.forall_mem_cons.mpr ⟨lw_p36, List.forall_mem_cons.mpr ⟨lw_p37, List.forall_mem_cons.mpr ⟨lw_p38, List.forall_mem_cons.mpr ⟨lw_p39, List.forall_mem_cons.mpr ⟨lw_p40, List.forall_mem_cons.mpr ⟨lw_p41, List.forall_mem_cons.mpr ⟨lw_p42, List.forall_mem_cons.mpr ⟨lw_p43, List.forall_mem_cons.mpr ⟨lw_p44, List.forall_mem_cons.mpr ⟨lw_p45, List.forall_mem_cons.mpr ⟨lw_p46, List.forall_mem_cons.mpr ⟨lw_p47, fun _ h => absurd h List.not_mem_nil⟩⟩⟩⟩⟩⟩⟩⟩⟩⟩⟩⟩⟩⟩⟩⟩
theorem lw_p48 : lw_okq (⟨"GossipHeadModel", "discord", "(I)I"⟩, 15) := ⟨⟨by decide +kernel, by decide +kernel⟩, List.mem_of_getElem? (i := 706) (by decide +kernel), List.mem_of_getElem? (i := 1061) (by decide +kernel), List.mem_of_getElem? (i := 1062) (by decide +kernel)⟩
theorem lw_p49 : lw_okq (⟨"GossipHeadModel", "share", "()D"⟩, 15) := ⟨⟨by decide +kernel, by decide +kernel⟩, List.mem_of_getElem? (i := 706) (by decide +kernel), List.mem_of_getElem? (i := 1069) (by decide +kernel), List.mem_of_getElem? (i := 1070) (by decide +kernel)⟩
theorem lw_p50 : lw_okq (⟨"GossipHeadModel", "mix", "(J)V"⟩, 15) := ⟨⟨by decide +kernel, by decide +kernel⟩, List.mem_of_getElem? (i := 706) (by decide +kernel), List.mem_of_getElem? (i := 1078) (by decide +kernel), List.mem_of_getElem? (i := 1079) (by decide +kernel)⟩
theorem lw_p51 : lw_okq (⟨"GossipHeadModel", "mixNozzle", "(I)V"⟩, 15) := ⟨⟨by decide +kernel, by decide +kernel⟩, List.mem_of_getElem? (i := 706) (by decide +kernel), List.mem_of_getElem? (i := 1083) (by decide +kernel), List.mem_of_getElem? (i := 1084) (by decide +kernel)⟩
def lw_privs_4 : List (MethodName × Nat) := [(⟨"GossipHeadModel", "discord", "(I)I"⟩, 15), (⟨"GossipHeadModel", "share", "()D"⟩, 15), (⟨"GossipHeadModel", "mix", "(J)V"⟩, 15), (⟨"GossipHeadModel", "mixNozzle", "(I)V"⟩, 15)]
theorem lw_r4 : ∀ q ∈ lw_privs_4, lw_okq q := List.forall_mem_cons.mpr ⟨lw_p48, List.forall_mem_cons.mpr ⟨lw_p49, List.forall_mem_cons.mpr ⟨lw_p50, List.forall_mem_cons.mpr ⟨lw_p51, fun _ h => absurd h List.not_mem_nil⟩⟩⟩⟩
def lw_privs : List (MethodName × Nat) := lw_privs_1 ++ (lw_privs_2 ++ (lw_privs_3 ++ (lw_privs_4)))
def lw_tbl : List Cond := k2_sels lw_privs ++ tables_1
theorem lw_privs_ok : ∀ q ∈ lw_privs, lw_okq q := by
  show ∀ q ∈ lw_privs_1 ++ (lw_privs_2 ++ (lw_privs_3 ++ (lw_privs_4))), lw_okq q
  exact List.forall_mem_append.mpr ⟨lw_r1, List.forall_mem_append.mpr ⟨lw_r2, List.forall_mem_append.mpr ⟨lw_r3, lw_r4⟩⟩⟩
/-- the streams that the claim lets the run draw from -/
abbrev lw_cs : List Choice := [Jvm.Choice.named "NaN.bits"]
theorem lw_bits : nanBits ∈ lw_cs := by first | decide | exact List.mem_cons_self | simp [lw_cs, nanBits]
-- ===== end of PART A; then your names; then what follows =====
end
section
/-! ===== BEGIN words of one list among another's, by their places ===== -/
theorem goodIn_r {big : List Cond} (ws : List Cond) (ps : List Nat) (hp : ws = ps.filterMap (fun i => big[i]?)) (h : ws.all goodWord = true) : GoodIn big ws := by
  intro w hw
  have h1 := List.all_eq_true.mp h w hw
  rw [hp] at hw
  obtain ⟨i, -, hi⟩ := List.mem_filterMap.mp hw
  have hm : w ∈ big := by first | exact List.mem_of_getElem? hi | exact List.getElem?_mem hi
  exact ⟨hm, good_of_word h1⟩
theorem goodIn_app {big a b : List Cond} (ha : GoodIn big a) (hb : GoodIn big b) : GoodIn big (a ++ b) := fun w h => (List.mem_append.mp h).elim (ha w) (hb w)
theorem goodIn_ca {big a b : List Cond} {c : Cond} (ha : GoodIn big (c :: a)) (hb : GoodIn big b) : GoodIn big (c :: (a ++ b)) := fun w h => (List.mem_cons.mp h).elim (fun e => ha w (List.mem_cons.mpr (Or.inl e))) (fun h => (List.mem_append.mp h).elim (fun h => ha w (List.mem_cons.mpr (Or.inr h))) (hb w))
theorem goodIn_sub {big ws : List Cond} (hm : ∀ w ∈ ws, w ∈ big) (h : ws.all goodWord = true) : GoodIn big ws := fun w hw => ⟨hm w hw, good_of_word (List.all_eq_true.mp h w hw)⟩
/-! ===== END ===== -/

/-! ===== BEGIN exceptions that leave a method, and their catching by the caller (launches without stack traces) ===== -/
section VXA
/-! The laws vx_back, vx_callV, vx_callS, vx_callSW, vx_throw0, vx_throwS follow proofs of the library, with one case more: JvmDerived/Free/Laws.lean (Back.of_free), Shelf42/LK1.lean (callV, callS), Shelf/KitTraced.lean (throwNew0V, throwNewS). -/
/-- where a method has thrown q: the class by its name, the cell, what was written, the world -/
def vx_T (XC : String → State → State → Prop) (st : State) (q : Addr) (t : State) (mc ms : Nat) (free : Addr → Prop) : Prop :=
  ∃ (E : String) (ce : Cell) (L : List Loc), XC E st t ∧ t.heap[q]? = some ce ∧ ce.vm = .none ∧ st.vm.findClass E = some ce.cls ∧ st.WarmedH t.vm ∧ st.sameButNew ({ t with vm := st.vm } : State) L mc ms ∧ ∀ z ∈ L, free z.base
def vx_Q (Qc : Array Value → State → Outcome → State → Prop) (XC : String → State → State → Prop) (mc ms : Nat) (free : Addr → Prop) : Array Value → State → Outcome → State → Prop := fun a st o t =>
  (Qc a st o t ∧ ∃ L, FrameEnd st o t L mc ms ∧ ∀ q ∈ L, free q.base) ∨ ∃ q, o = .threw q ∧ vx_T XC st q t mc ms free
/-- a callee that returns or throws -/
def vx_Met (l : Launch) (y : MethodName) (ws : List Cond) (rm : Room) (Pc : Array Value → State → Prop) (Qc : Array Value → State → Outcome → State → Prop) (XC : String → State → State → Prop) (mc ms : Nat) (free : Addr → Prop) : Prop :=
  MetFree l y (headSpec ws rm) Pc (fun _ _ _ _ _ => True) (vx_Q Qc XC mc ms free)
def vx_Post (XC : String → State → State → Prop) (mc ms : Nat) (free : Addr → Prop) : Pt → Array Value → Addr → Pt → Prop := fun A a q B =>
  ∃ (g : JFrame) (mk : MethodId) (t : State) (L : List Loc) (E : String) (ce : Cell), B.U.heap = t.heap ∧ B.U.vm = t.vm ∧ XC E (A.U.calling g mk a) t ∧ t.heap[q]? = some ce ∧ ce.vm = .none ∧ A.U.vm.findClass E = some ce.cls ∧ B.locs = A.locs ++ L ∧ (∀ z ∈ L, free z.base) ∧ B.cells = A.cells + mc ∧ B.slots = A.slots + ms
def vx_Back (l : Launch) (R : Room) (p : Program) (e : Env) (below : List Frame) (s : State) (sargs : Array Value) (y : MethodName) (len W9 : Nat)
    (Pre : Pt → Array Value → Prop) (Post : Pt → Array Value → Option Value → Pt → Prop) (PostX : Pt → Array Value → Addr → Pt → Prop) : Prop :=
  ∀ (m : MethodId) (meth : Method) (c : Code) (A : Pt) (g : JFrame) (ig : Instr) (mk : MethodId) (a : Array Value),
    Stand p l e R s m sargs below meth c A.U A.locs A.cells A.slots → g.method = m → g.locals.size = c.maxLocals → decode c.code g.pc = .ok (ig, len) →
    2 * g.monitorRoom + (g.stack.map fun v => v.category).sum ≤ W9 → A.U.methodNamed? y = some mk → Pre A a →
    (∃ (v : Option Value) (B : Pt), Stand p l e R s m sargs below meth c B.U B.locs B.cells B.slots ∧ Post A a v B ∧
      Steps p.tables e below (doInvoke e (A.U.setTop g) [] mk a).1 (B.U.setTop { g with pc := g.pc + len, stack := v.toList ++ g.stack })) ∨
    (∃ (q : Addr) (B : Pt), Stand p l e R s m sargs below meth c B.U B.locs B.cells B.slots ∧ PostX A a q B ∧
      Steps p.tables e below (doInvoke e (A.U.setTop g) [] mk a).1 ((B.U.setTop g).pushFrame (.throwing q)))
section Payer
variable {l : Launch} {R : Room} {p : Program} {e : Env} {below : List Frame} {s : State} {sargs : Array Value} {y : MethodName} {len W9 : Nat}
theorem vx_back {ws : List Cond} {rm : Room} {Pc : Array Value → State → Prop} {Qc : Array Value → State → Outcome → State → Prop} {XC : String → State → State → Prop} {mc ms : Nat} {free : Addr → Prop} {bytes : ByteArray} {maxL : Nat} {ret : Option FieldType}
    (hM : vx_Met l y ws rm Pc Qc XC mc ms free) (hblind : FrameBlind Pc) (hrc : rm.cells = mc) (hrs : rm.slots = ms)
    (hframes : rm.frames + 1 ≤ R.frames) (hlocals : W9 + (maxL + 11) + rm.locals ≤ R.locals)
    (hws : ∀ w ∈ ws, ∀ a' U, s.WarmedH U.vm → w.before a' U = true) (hcode : Cond.code y bytes maxL ret ∈ ws) (hinit : ∀ a' U, s.WarmedH U.vm → (Cond.initialized y.cls).before a' U = true) :
    vx_Back l R p e below s sargs y len W9 (PreOf R mc ms Pc) (PostOf Qc mc ms free) (vx_Post XC mc ms free) := by
  intro m meth c A g ig mk a X hg hsize hdg hW hn hp
  have h1 : (headSpec ws rm).pre.before a A.U = true := atoms_intro fun w hw => hws w hw _ _ X.warmed
  have h2 : (Cond.code y bytes maxL ret).before a A.U = true := hws _ hcode _ _ X.warmed
  have h3 : (Cond.initialized y.cls).before a A.U = true := hinit _ _ X.warmed
  have h4 : A.cells + (headSpec ws rm).room.cells ≤ R.cells := by rw [show (headSpec ws rm).room.cells = mc from hrc]; exact hp.1
  have h5 : A.slots + (headSpec ws rm).room.slots ≤ R.slots := by rw [show (headSpec ws rm).room.slots = ms from hrs]; exact hp.2.1
  have hPc : Pc a (A.U.calling g mk a) := hblind _ _ _ _ hp.2.2
  obtain ⟨U, Ls, c0, s0⟩ := A
  dsimp only [Pt.U, Pt.locs, Pt.cells, Pt.slots] at h1 h2 h3 h4 h5 X hn hPc ⊢
  obtain ⟨methY, cY, hmY, hcY, -, hlY, -, -, -, -⟩ := Cond.code_spec hn h2
  obtain ⟨kY, hkY, -⟩ := className_of_methodNamed hn
  have hinitY : kY.init = .initialized := Cond.initialized_spec (findClass_of_methodNamed hn) hkY h3
  have h : At U g.method c below := by rw [hg]; exact X.here
  have hlocals9 : W9 + (maxL + 11) + (headSpec ws rm).room.locals ≤ R.locals := hlocals
  have happ : (headSpec ws rm).appliesLoose y e.platform (U.calling g mk a) = true :=
    Spec.appliesLoose_calling (g := g) h hdg hn hkY hinitY
      (X.room_calling (g := g) (R' := (headSpec ws rm).room) hsize hmY hcY hframes (by rw [hlY]; omega) h4 h5) h1
  obtain ⟨mid, hmid⟩ := h.above
  have hfr : (U.setTop g).frames = (.java g :: mid) ++ below := by rw [State.frames_setTop' g h.top, hmid]; rfl
  obtain ⟨o, s₂, hsteps, -, hend, hq⟩ := Steps.callFree hM p X.admits X.cas X.clock (acts := []) hfr happ hPc trivial
  have hq' : vx_Q Qc XC mc ms free a (U.calling g mk a) o s₂ := hq
  rw [State.frames_setTop' g h.top] at hend
  obtain ⟨g₀, hg0⟩ := Option.isSome_iff_exists.mp h.top
  obtain ⟨r, hr⟩ := State.topJava?_eq_some.mp hg0
  have hr' : (({ U with heap := s₂.heap, slotsUsed := s₂.slotsUsed } : State).setVm s₂.vm).frames = .java g₀ :: r := hr
  rcases hq' with ⟨hqc, L, hfe, hL⟩ | ⟨q, rfl, E, ce, L, hx, hce, hcv, hcl, hW₂, hsm, hL⟩
  · obtain ⟨⟨v, rfl⟩, hW₂, e2, q2, q3, q4, q5, q6⟩ := id hfe
    have e3 : s₂ = ({ (U.calling g mk a).setFrames s₂.frames with heap := s₂.heap, slotsUsed := s₂.slotsUsed } : State).setVm s₂.vm := by
      have : s₂ = ({ s₂ with vm := (U.calling g mk a).vm } : State).setVm s₂.vm := rfl
      rw [e2] at this
      exact this
    obtain ⟨c₂, i₂, len₂, hc₂, hd₂, hf₂⟩ := hend
    have hW' : U.WarmedH s₂.vm := hW₂
    have hcc : c₂ = c := by
      have h1 : s₂.code? g.method = U.code? g.method := by
        rw [State.code?_eq, State.code?_eq, hW'.alike.method?]
      exact Option.some.inj (hc₂.symm.trans (h1.trans h.code))
    subst hcc
    have hlen : len₂ = len := by rw [hdg] at hd₂; cases hd₂; rfl
    subst hlen
    have hs₂ : s₂ = (({ U with heap := s₂.heap, slotsUsed := s₂.slotsUsed } : State).setVm s₂.vm).setTop { g with pc := g.pc + len₂, stack := v.toList ++ g.stack } := by
      refine e3.trans ?_
      rw [hf₂, State.calling_eq h.top, State.setFrames_setFrames, State.setTop_of_frames _ hr', hr]
      rfl
    have hsame : U.sameButNew ({ U with heap := s₂.heap, slotsUsed := s₂.slotsUsed } : State) L mc ms := by
      refine ⟨?_, q2, q3, q4, q5, q6⟩
      obtain ⟨t, ht, -⟩ := State.frames_cons hr
      show ({ U with heap := s₂.heap, slotsUsed := s₂.slotsUsed } : State) = { U.setFrames U.frames with heap := s₂.heap, slotsUsed := s₂.slotsUsed }
      rw [State.setFrames_self ht]
    subst hg
    refine Or.inl ⟨v, ⟨(({ U with heap := s₂.heap, slotsUsed := s₂.slotsUsed } : State).setVm s₂.vm), Ls ++ L, c0 + mc, s0 + ms⟩,
      ⟨X.admits, X.cas, X.clock, X.frames, X.room, X.hears, X.method, X.code, (X.here.setHeapUsed s₂.heap s₂.slotsUsed).setVm hW'.alike, X.tail, State.WarmedH.trans X.warmed hW', X.limits, X.bytes, X.same.trans (hsame.setVm s.vm)⟩,
      ⟨g, mk, s₂, L, rfl, rfl, hqc, rfl, hL, rfl, rfl⟩, ?_⟩
    show Steps p.tables e below _ ((({ U with heap := s₂.heap, slotsUsed := s₂.slotsUsed } : State).setVm s₂.vm).setTop { g with pc := g.pc + len₂, stack := v.toList ++ g.stack })
    rw [← hs₂]
    exact hsteps
  · obtain ⟨e2, q2, q3, q4, q5, q6⟩ := id hsm
    have e3 : s₂ = ({ (U.calling g mk a).setFrames s₂.frames with heap := s₂.heap, slotsUsed := s₂.slotsUsed } : State).setVm s₂.vm := by
      have : s₂ = ({ s₂ with vm := (U.calling g mk a).vm } : State).setVm s₂.vm := rfl
      rw [e2] at this
      exact this
    have hf₂ : s₂.frames = .throwing q :: .java g :: U.frames.tail := hend
    have hW' : U.WarmedH s₂.vm := hW₂
    have hs₂ : s₂ = ((({ U with heap := s₂.heap, slotsUsed := s₂.slotsUsed } : State).setVm s₂.vm).setTop g).pushFrame (.throwing q) := by
      refine e3.trans ?_
      rw [hf₂, State.calling_eq h.top, State.setFrames_setFrames, State.pushFrame, State.frames_setTop _ hr', State.setTop_of_frames _ hr', State.setFrames_setFrames, hr]
      rfl
    have hsame : U.sameButNew ({ U with heap := s₂.heap, slotsUsed := s₂.slotsUsed } : State) L mc ms := by
      refine ⟨?_, q2, q3, q4, q5, q6⟩
      obtain ⟨t, ht, -⟩ := State.frames_cons hr
      show ({ U with heap := s₂.heap, slotsUsed := s₂.slotsUsed } : State) = { U.setFrames U.frames with heap := s₂.heap, slotsUsed := s₂.slotsUsed }
      rw [State.setFrames_self ht]
    subst hg
    refine Or.inr ⟨q, ⟨(({ U with heap := s₂.heap, slotsUsed := s₂.slotsUsed } : State).setVm s₂.vm), Ls ++ L, c0 + mc, s0 + ms⟩,
      ⟨X.admits, X.cas, X.clock, X.frames, X.room, X.hears, X.method, X.code, (X.here.setHeapUsed s₂.heap s₂.slotsUsed).setVm hW'.alike, X.tail, State.WarmedH.trans X.warmed hW', X.limits, X.bytes, X.same.trans (hsame.setVm s.vm)⟩,
      ⟨g, mk, s₂, L, E, ce, rfl, rfl, hx, hce, hcv, hcl, rfl, hL, rfl, rfl⟩, ?_⟩
    show Steps p.tables e below _ (((({ U with heap := s₂.heap, slotsUsed := s₂.slotsUsed } : State).setVm s₂.vm).setTop g).pushFrame (.throwing q))
    rw [← hs₂]
    exact hsteps
end Payer
section Calls
variable {p : Program} {l : Launch} {e : Env} {R : Room} {s : State} {m : MethodId} {args : Array Value} {below : List Frame} {meth : Method} {c : Code} {T : State} {locs : List Loc} {cells slots : Nat}
theorem vx_callV (X : Stand p l e R s m args below meth c T locs cells slots) (hexec : p.tables.exec = Jvm.exec) {own C : String} {index : Nat} {y : MethodName} {bytes : ByteArray} {maxL : Nat} {ret : Option FieldType}
    (hown : s.vm.findClass own = some m.cls) (hlink : (Cond.methodLink own index y).before args s = true) (hinst : (Cond.instanceMethod y).before args s = true) (hsel : (Cond.selects C y y).before args s = true)
    (hcode : (Cond.code y bytes maxL ret).before args s = true) (hy : y.cls ≠ "java/lang/invoke/MethodHandle" ∧ y.cls ≠ "java/lang/invoke/VarHandle")
    {W9 : Nat} {Pre : Pt → Array Value → Prop} {Post : Pt → Array Value → Option Value → Pt → Prop} {PostX : Pt → Array Value → Addr → Pt → Prop} (hK : vx_Back l R p e below s args y 3 W9 Pre Post PostX)
    {b : Addr} {cellB : Cell} (hcell : T.heap[b]? = some cellB) (hobj : cellB.vm.isStatics = false) (hcls : s.vm.findClass C = some cellB.cls)
    {g : JFrame} (hg : g.method = m) (hsize : g.locals.size = c.maxLocals) {argsL rest : List Value} (hlen : ∀ sig, parseMethodDescriptor y.desc = some sig → argsL.length = sig.parameters.length)
    (hstack : g.stack = argsL.reverse ++ .ref b :: rest) (hW : 2 * g.monitorRoom + (rest.map fun v => v.category).sum ≤ W9) (hdg : decode c.code g.pc = .ok (.invokevirtual index, 3))
    (hpre : ∀ vm₁, s.WarmedH vm₁ → Pre ⟨T.setVm vm₁, locs, cells, slots⟩ (Value.ref b :: argsL).toArray) :
    (∃ (v : Option Value) (vm₁ : Vm) (B : Pt), s.WarmedH vm₁ ∧ Stand p l e R s m args below meth c B.U B.locs B.cells B.slots ∧ Post ⟨T.setVm vm₁, locs, cells, slots⟩ (Value.ref b :: argsL).toArray v B ∧
      ∀ target, Steps p.tables e below (B.U.setTop { g with pc := g.pc + 3, stack := v.toList ++ rest }) target → Steps p.tables e below (T.setTop g) target) ∨
    (∃ (q : Addr) (vm₁ : Vm) (B : Pt), s.WarmedH vm₁ ∧ Stand p l e R s m args below meth c B.U B.locs B.cells B.slots ∧ PostX ⟨T.setVm vm₁, locs, cells, slots⟩ (Value.ref b :: argsL).toArray q B ∧
      Steps p.tables e below (T.setTop g) ((B.U.setTop { g with stack := rest }).pushFrame (.throwing q))) := by
  obtain ⟨mk, methM, hnamed, hmethM, hstM, habM⟩ := Cond.instanceMethod_spec hinst
  obtain ⟨methM', cM, hmethM', -, -, -, -, -, -, hsigM⟩ := Cond.code_spec hnamed hcode
  cases hmethM.symm.trans hmethM'
  obtain ⟨c2, r2, m2, q1, q2, q3, q4, kP, hkP, hkPi⟩ := Cond.selects_spec hsel
  cases hcls.symm.trans q1
  cases (State.methodFound?_of_named hnamed hy).symm.trans q2
  cases hnamed.symm.trans q3
  have hselP : selectMethod e.platform s.vm cellB.cls mk = .method mk := by rw [Launch.admits_selectMethod X.admits]; exact q4
  obtain ⟨vm₁, X₁, hstep₁⟩ := X.invokevirtual hexec hown hlink hnamed hmethM hstM hkP hkPi hy (a := b) (cell := cellB) hcell
    (fun z h => by rw [h] at hobj; cases hobj) hselP hmethM habM hkP hkPi (g := g) hg (argsL := argsL) (rest := rest) (hlen _ hsigM) hstack hdg
  rcases hK m meth c ⟨T.setVm vm₁, locs, cells, slots⟩ { g with stack := rest } (.invokevirtual index) mk (Value.ref b :: argsL).toArray X₁ hg hsize hdg hW (X₁.named hnamed) (hpre vm₁ X₁.warmed) with ⟨v, B, X', hpost, hsteps⟩ | ⟨q, B, X', hpost, hsteps⟩
  · exact Or.inl ⟨v, vm₁, B, X₁.warmed, X', hpost, fun target h => hstep₁ _ fun acts => by rw [doInvoke_state]; exact hsteps.trans h⟩
  · exact Or.inr ⟨q, vm₁, B, X₁.warmed, X', hpost, hstep₁ _ fun acts => by rw [doInvoke_state]; exact hsteps⟩
theorem vx_callS (X : Stand p l e R s m args below meth c T locs cells slots) (hexec : p.tables.exec = Jvm.exec) {own : String} {index : Nat} {y : MethodName} {bytes : ByteArray} {maxL : Nat} {ret : Option FieldType}
    (hown : s.vm.findClass own = some m.cls) (hlink : (Cond.methodLink own index y).before args s = true) (hstat : (Cond.static y).before args s = true) (hinit : (Cond.initialized y.cls).before args s = true)
    (hcode : (Cond.code y bytes maxL ret).before args s = true) (hy : y.cls ≠ "java/lang/invoke/MethodHandle" ∧ y.cls ≠ "java/lang/invoke/VarHandle")
    {W9 : Nat} {Pre : Pt → Array Value → Prop} {Post : Pt → Array Value → Option Value → Pt → Prop} {PostX : Pt → Array Value → Addr → Pt → Prop} (hK : vx_Back l R p e below s args y 3 W9 Pre Post PostX)
    {g : JFrame} (hg : g.method = m) (hsize : g.locals.size = c.maxLocals) {argsL rest : List Value} (hlen : ∀ sig, parseMethodDescriptor y.desc = some sig → argsL.length = sig.parameters.length)
    (hstack : g.stack = argsL.reverse ++ rest) (hW : 2 * g.monitorRoom + (rest.map fun v => v.category).sum ≤ W9) (hdg : decode c.code g.pc = .ok (.invokestatic index, 3))
    (hpre : ∀ vm₁, s.WarmedH vm₁ → Pre ⟨T.setVm vm₁, locs, cells, slots⟩ argsL.toArray) :
    (∃ (v : Option Value) (vm₁ : Vm) (B : Pt), s.WarmedH vm₁ ∧ Stand p l e R s m args below meth c B.U B.locs B.cells B.slots ∧ Post ⟨T.setVm vm₁, locs, cells, slots⟩ argsL.toArray v B ∧
      ∀ target, Steps p.tables e below (B.U.setTop { g with pc := g.pc + 3, stack := v.toList ++ rest }) target → Steps p.tables e below (T.setTop g) target) ∨
    (∃ (q : Addr) (vm₁ : Vm) (B : Pt), s.WarmedH vm₁ ∧ Stand p l e R s m args below meth c B.U B.locs B.cells B.slots ∧ PostX ⟨T.setVm vm₁, locs, cells, slots⟩ argsL.toArray q B ∧
      Steps p.tables e below (T.setTop g) ((B.U.setTop { g with stack := rest }).pushFrame (.throwing q))) := by
  obtain ⟨mk, hnamed⟩ := Cond.code_named hcode
  obtain ⟨methM, cM, hmethM, -, -, -, -, -, -, hsigM⟩ := Cond.code_spec hnamed hcode
  have hstatic : methM.isStatic = true := Cond.static_spec hnamed hmethM hstat
  obtain ⟨kP, hkP, -⟩ := className_of_methodNamed hnamed
  have hinitP : kP.init = .initialized := Cond.initialized_spec (findClass_of_methodNamed hnamed) hkP hinit
  obtain ⟨vm₁, X₁, hstep₁⟩ := X.invokestatic hexec hown hlink hnamed hmethM hstatic hkP hinitP hy (g := g) hg (argsL := argsL) (rest := rest) (hlen _ hsigM) hstack hdg
  rcases hK m meth c ⟨T.setVm vm₁, locs, cells, slots⟩ { g with stack := rest } (.invokestatic index) mk argsL.toArray X₁ hg hsize hdg hW (X₁.named hnamed) (hpre vm₁ X₁.warmed) with ⟨v, B, X', hpost, hsteps⟩ | ⟨q, B, X', hpost, hsteps⟩
  · exact Or.inl ⟨v, vm₁, B, X₁.warmed, X', hpost, fun target h => hstep₁ _ fun acts => by rw [doInvoke_state]; exact hsteps.trans h⟩
  · exact Or.inr ⟨q, vm₁, B, X₁.warmed, X', hpost, hstep₁ _ fun acts => by rw [doInvoke_state]; exact hsteps⟩
end Calls
theorem vx_cls {s : State} {T : State} {vm₁ : Vm} {E : String} {k : ClassId} (hW : s.WarmedH vm₁) (h : (T.setVm vm₁).vm.findClass E = some k) : s.vm.findClass E = some k := by
  have h1 : vm₁.findClass E = some k := h
  rw [hW.alike.findClass] at h1
  exact h1
/-- the method's frame g, with q thrown over it -/
def vx_W (p : Program) (l : Launch) (e : Env) (R : Room) (s : State) (m : MethodId) (args : Array Value) (below : List Frame) (meth : Method) (c : Code) (H : Heap) (locs : List Loc) (cells slots : Nat) (Q : State → Prop) (g : JFrame) (q : Addr) : Prop :=
  ∀ T : State, T.heap = H → Stand p l e R s m args below meth c T locs cells slots → ∃ t, Steps p.tables e below ((T.setTop g).pushFrame (.throwing q)) t ∧ Q t
def vx_Run (p : Program) (l : Launch) (e : Env) (R : Room) (s : State) (m : MethodId) (args : Array Value) (below : List Frame) (meth : Method) (c : Code) (H : Heap) (locs : List Loc) (cells slots mc ms : Nat) (g : JFrame) (rest : List Value) (Qa : State → Outcome → State → Prop) (XC : String → State → State → Prop) (free : Addr → Prop) : Prop :=
  ∀ T : State, T.heap = H → Stand p l e R s m args below meth c T locs cells slots →
    (∃ (v : Option Value) (st₀ t T' : State) (L : List Loc), st₀.heap = H ∧ Stand p l e R s m args below meth c T' (locs ++ L) (cells + mc) (slots + ms) ∧ (∀ q ∈ L, free q.base) ∧ T'.heap = t.heap ∧ T'.vm = t.vm ∧ Qa st₀ (.returned v) t ∧
      Goes p e below T g T' { g with pc := g.pc + 3, stack := v.toList ++ rest }) ∨
    (∃ (q : Addr) (st₀ t T' : State) (L : List Loc) (E : String) (ce : Cell), st₀.heap = H ∧ Stand p l e R s m args below meth c T' (locs ++ L) (cells + mc) (slots + ms) ∧ (∀ z ∈ L, free z.base) ∧ T'.heap = t.heap ∧ T'.vm = t.vm ∧ XC E st₀ t ∧ t.heap[q]? = some ce ∧ ce.vm = .none ∧ s.vm.findClass E = some ce.cls ∧
      Steps p.tables e below (T.setTop g) ((T'.setTop { g with stack := rest }).pushFrame (.throwing q)))
def vx_X {S : Type} (px : S → Prop) (B : String → S → State → Prop) (A : Nat → Prop) : String → State → State → Prop := fun E st t => ∃ u : S, px u ∧ B E u t ∧ va_F A st t
section Runs
variable {p : Program} {l : Launch} {e : Env} {R : Room} {s : State} {m : MethodId} {args : Array Value} {below : List Frame} {meth : Method} {c : Code} {H : Heap} {locs : List Loc} {cells slots : Nat}
variable {y : MethodName} {bytes cc : ByteArray} {maxL nL mc ms n index : Nat} {ret : Option FieldType} {ws : List Cond} {rm : Room} {Pc : Array Value → State → Prop} {Qc : Array Value → State → Outcome → State → Prop} {XC : String → State → State → Prop} {free : Addr → Prop} {Ts : List Cond} {own C : String} {b : Addr} {As rest : List Value} {g : JFrame}
theorem vx_callBack (cb : CallB R s args own index y bytes maxL ret ws rm mc ms n) (hM : vx_Met l y ws rm Pc Qc XC mc ms free) (hbl : FrameBlind Pc) : vx_Back l R p e below s args y 3 8 (PreOf R mc ms Pc) (PostOf Qc mc ms free) (vx_Post XC mc ms free) := by
  obtain ⟨hrc, hrs, hfr, hlo, hws, hcw, -, hini, -⟩ := cb
  exact vx_back (bytes := bytes) (maxL := maxL) (ret := ret) hM hbl hrc hrs hfr hlo hws hcw (fun a' U hW => word_at hW (Or.inl (by first | rfl | simp [Cond.onTables, Cond.keeps, Cond.steady])) hini)
theorem vx_runV (S : CallFix p m c cc nL s args Ts own) (hM : vx_Met l y ws rm Pc Qc XC mc ms free) (cw : CallW R s args own C index y bytes maxL ret ws rm mc ms n) (hp : PreV s H C b Pc As)
    (hg : g.method = m) (hn : As.length = n) (hsize : g.locals.size = nL) (hstack : g.stack = As.reverse ++ .ref b :: rest) (hW : 2 * g.monitorRoom + (rest.map fun v => v.category).sum ≤ 8) (hdg : decode cc g.pc = .ok (.invokevirtual index, 3)) (hf : cells + mc ≤ R.cells ∧ slots + ms ≤ R.slots) :
    vx_Run p l e R s m args below meth c H locs cells slots mc ms g rest (Qc (Value.ref b :: As).toArray) XC free := by
  have hK : vx_Back l R p e below s args y 3 8 (PreOf R mc ms Pc) (PostOf Qc mc ms free) (vx_Post XC mc ms free) := vx_callBack cw.1 hM hp.1
  obtain ⟨⟨-, -, -, -, -, -, hcode, -, hy, hlen, hl⟩, hin, hse⟩ := cw
  obtain ⟨hx, hb, hml, ho, -⟩ := S
  obtain ⟨-, ⟨cellB, hcB, hoB, hclB⟩, hPc⟩ := hp
  intro T hT X
  rcases vx_callV X hx (C := C) (bytes := bytes) (maxL := maxL) (ret := ret) ho hl hin hse hcode hy hK (by rw [hT]; exact hcB) hoB hclB hg (hsize.trans hml.symm) (argsL := As) (rest := rest) (fun sig h => hn.trans (hlen sig h)) hstack hW (by rw [hb]; exact hdg)
    (fun vm₁ hW₁ => ⟨hf.1, hf.2, hPc (T.setVm vm₁) hT hW₁⟩) with ⟨v, vm₁, ⟨U', l2, c2, s2⟩, hW₁, X', ⟨g', mk, t, L, e1, e2, hq, h1, hL, h2, h3⟩, st⟩ | ⟨q, vm₁, ⟨U', l2, c2, s2⟩, hW₁, X', ⟨g', mk, t, L, E, ce, e1, e2, hq, hce, hcv, hcl, h1, hL, h2, h3⟩, st⟩
  · dsimp only [Pt.U, Pt.locs, Pt.cells, Pt.slots] at X' e1 e2 h1 h2 h3 st
    subst h1; subst h2; subst h3
    exact Or.inl ⟨v, (T.setVm vm₁).calling g' mk (Value.ref b :: As).toArray, t, U', L, hT, X', hL, e1, e2, hq, st⟩
  · dsimp only [Pt.U, Pt.locs, Pt.cells, Pt.slots] at X' e1 e2 h1 h2 h3 st hcl
    subst h1; subst h2; subst h3
    exact Or.inr ⟨q, (T.setVm vm₁).calling g' mk (Value.ref b :: As).toArray, t, U', L, E, ce, hT, X', hL, e1, e2, hq, hce, hcv, vx_cls hW₁ hcl, st⟩
theorem vx_runS (S : CallFix p m c cc nL s args Ts own) (hM : vx_Met l y ws rm Pc Qc XC mc ms free) (cw : CallB R s args own index y bytes maxL ret ws rm mc ms n ∧ (Cond.static y).before args s = true) (hp : PreS s H Pc As)
    (hg : g.method = m) (hn : As.length = n) (hsize : g.locals.size = nL) (hstack : g.stack = As.reverse ++ rest) (hW : 2 * g.monitorRoom + (rest.map fun v => v.category).sum ≤ 8) (hdg : decode cc g.pc = .ok (.invokestatic index, 3)) (hf : cells + mc ≤ R.cells ∧ slots + ms ≤ R.slots) :
    vx_Run p l e R s m args below meth c H locs cells slots mc ms g rest (Qc As.toArray) XC free := by
  have hK : vx_Back l R p e below s args y 3 8 (PreOf R mc ms Pc) (PostOf Qc mc ms free) (vx_Post XC mc ms free) := vx_callBack cw.1 hM hp.1
  obtain ⟨⟨-, -, -, -, -, -, hcode, hini, hy, hlen, hl⟩, hstt⟩ := cw
  obtain ⟨hx, hb, hml, ho, -⟩ := S
  intro T hT X
  rcases vx_callS X hx (bytes := bytes) (maxL := maxL) (ret := ret) ho hl hstt hini hcode hy hK hg (hsize.trans hml.symm) (argsL := As) (rest := rest) (fun sig h => hn.trans (hlen sig h)) hstack hW (by rw [hb]; exact hdg)
    (fun vm₁ hW₁ => ⟨hf.1, hf.2, hp.2 (T.setVm vm₁) hT hW₁⟩) with ⟨v, vm₁, ⟨U', l2, c2, s2⟩, hW₁, X', ⟨g', mk, t, L, e1, e2, hq, h1, hL, h2, h3⟩, st⟩ | ⟨q, vm₁, ⟨U', l2, c2, s2⟩, hW₁, X', ⟨g', mk, t, L, E, ce, e1, e2, hq, hce, hcv, hcl, h1, hL, h2, h3⟩, st⟩
  · dsimp only [Pt.U, Pt.locs, Pt.cells, Pt.slots] at X' e1 e2 h1 h2 h3 st
    subst h1; subst h2; subst h3
    exact Or.inl ⟨v, (T.setVm vm₁).calling g' mk As.toArray, t, U', L, hT, X', hL, e1, e2, hq, st⟩
  · dsimp only [Pt.U, Pt.locs, Pt.cells, Pt.slots] at X' e1 e2 h1 h2 h3 st hcl
    subst h1; subst h2; subst h3
    exact Or.inr ⟨q, (T.setVm vm₁).calling g' mk As.toArray, t, U', L, E, ce, hT, X', hL, e1, e2, hq, hce, hcv, vx_cls hW₁ hcl, st⟩
end Runs
section Rows
variable {p : Program} {l : Launch} {e : Env} {R : Room} {s : State} {m : MethodId} {args : Array Value} {below : List Frame} {meth : Method} {c : Code} {H : Heap} {locs : List Loc} {cells slots : Nat} {Q : State → Prop}
variable {mc ms : Nat} {free : Addr → Prop} {A0 A1 : Nat → Prop} {H0 : Heap} {a : Array Value} {pc : Nat} {ls : Array Slot} {st0 rest : List Value}
theorem vx_keep {st₀ t T' : State} {L : List Loc} (h0 : st₀.heap = H) (e1 : T'.heap = t.heap) (hS : va_S A0 H0 H locs) (hA : ∀ q, q < H.size → A1 q → A0 q) (hf : ∀ q, free q → A0 q) (hL : ∀ q ∈ L, free q.base) (hF : va_F A1 st₀ t) :
    H.size ≤ T'.heap.size ∧ (∀ q : Nat, q < H.size → ¬ A1 q → T'.heap[q]? = H[q]?) ∧ va_S A0 H0 T'.heap (locs ++ L) := by
  obtain ⟨hz, hk⟩ := hF
  rw [h0] at hz hk
  exact ⟨by rw [e1]; exact hz, fun q h1 h2 => by rw [e1]; exact hk q h1 h2,
    ⟨Nat.le_trans hS.1 (by rw [e1]; exact hz), fun q h1 h2 => by rw [e1, hk q (Nat.lt_of_lt_of_le h1 hS.1) (fun z => h2 (hA q (Nat.lt_of_lt_of_le h1 hS.1) z))]; exact hS.2.1 q h1 h2, fun q hq => by
      rcases List.mem_append.mp hq with h | h
      · exact hS.2.2 q h
      · exact hf _ (hL q h)⟩⟩
theorem vx_calli {S SX : Type} {post : Int32 → S → Prop} {px : SX → Prop} {B : S → State → Prop} {BX : String → SX → State → Prop} {AX : Nat → Prop} (hr : vx_Run p l e R s m args below meth c H locs cells slots mc ms (F0 m pc ls st0) rest (va_Qi post B A1 a) (vx_X px BX AX) free) (hS : va_S A0 H0 H locs) (hA : ∀ q, q < H.size → A1 q → A0 q) (hf : ∀ q, free q → A0 q) (hAX : ∀ q, q < H.size → AX q → A0 q)
    (kx : ∀ (E : String) (ce : Cell) (q9 : Addr) (u : SX) (t : State) (H1 : Heap) (locs1 : List Loc), t.heap = H1 → s.vm.Alike t.vm → px u → BX E u t → H.size ≤ H1.size → (∀ q : Nat, q < H.size → ¬ AX q → H1[q]? = H[q]?) → va_S A0 H0 H1 locs1 → H1[q9]? = some ce → ce.vm = .none → s.vm.findClass E = some ce.cls → vx_W p l e R s m args below meth c H1 locs1 (cells + mc) (slots + ms) Q (F0 m pc ls rest) q9)
    (kk : ∀ (r : Int32) (u : S) (t : State) (H1 : Heap) (locs1 : List Loc), t.heap = H1 → s.vm.Alike t.vm → post r u → B u t → H.size ≤ H1.size → (∀ q : Nat, q < H.size → ¬ A1 q → H1[q]? = H[q]?) → va_S A0 H0 H1 locs1 → W p l e R s m args below meth c H1 locs1 (cells + mc) (slots + ms) Q (F0 m (pc + 3) ls (.int r :: rest))) : W p l e R s m args below meth c H locs cells slots Q (F0 m pc ls st0) := by
  intro T hT X
  rcases hr T hT X with ⟨v, st₀, t, T', L, h0, X', hL, e1, e2, ⟨⟨r, u, hv, hp, hb⟩, hF⟩, st⟩ | ⟨q, st₀, t, T', L, E, ce, h0, X', hL, e1, e2, ⟨u, hp, hb, hF⟩, hce, hcv, hcl, st⟩
  · cases hv
    obtain ⟨k1, k2, k3⟩ := vx_keep h0 e1 hS hA hf hL hF
    obtain ⟨t2, a1, b1⟩ := kk r u t T'.heap (locs ++ L) e1.symm (by rw [← e2]; exact X'.warmed.alike) hp hb k1 k2 k3 T' rfl X'
    exact ⟨t2, st t2 a1, b1⟩
  · obtain ⟨k1, k2, k3⟩ := vx_keep h0 e1 hS hAX hf hL hF
    obtain ⟨t2, a1, b1⟩ := kx E ce q u t T'.heap (locs ++ L) e1.symm (by rw [← e2]; exact X'.warmed.alike) hp hb k1 k2 k3 (by rw [e1]; exact hce) hcv hcl T' rfl X'
    exact ⟨t2, st.trans a1, b1⟩
theorem vx_calll {S SX : Type} {post : Int64 → S → Prop} {px : SX → Prop} {B : S → State → Prop} {BX : String → SX → State → Prop} {AX : Nat → Prop} (hr : vx_Run p l e R s m args below meth c H locs cells slots mc ms (F0 m pc ls st0) rest (va_Ql post B A1 a) (vx_X px BX AX) free) (hS : va_S A0 H0 H locs) (hA : ∀ q, q < H.size → A1 q → A0 q) (hf : ∀ q, free q → A0 q) (hAX : ∀ q, q < H.size → AX q → A0 q)
    (kx : ∀ (E : String) (ce : Cell) (q9 : Addr) (u : SX) (t : State) (H1 : Heap) (locs1 : List Loc), t.heap = H1 → s.vm.Alike t.vm → px u → BX E u t → H.size ≤ H1.size → (∀ q : Nat, q < H.size → ¬ AX q → H1[q]? = H[q]?) → va_S A0 H0 H1 locs1 → H1[q9]? = some ce → ce.vm = .none → s.vm.findClass E = some ce.cls → vx_W p l e R s m args below meth c H1 locs1 (cells + mc) (slots + ms) Q (F0 m pc ls rest) q9)
    (kk : ∀ (r : Int64) (u : S) (t : State) (H1 : Heap) (locs1 : List Loc), t.heap = H1 → s.vm.Alike t.vm → post r u → B u t → H.size ≤ H1.size → (∀ q : Nat, q < H.size → ¬ A1 q → H1[q]? = H[q]?) → va_S A0 H0 H1 locs1 → W p l e R s m args below meth c H1 locs1 (cells + mc) (slots + ms) Q (F0 m (pc + 3) ls (.long r :: rest))) : W p l e R s m args below meth c H locs cells slots Q (F0 m pc ls st0) := by
  intro T hT X
  rcases hr T hT X with ⟨v, st₀, t, T', L, h0, X', hL, e1, e2, ⟨⟨r, u, hv, hp, hb⟩, hF⟩, st⟩ | ⟨q, st₀, t, T', L, E, ce, h0, X', hL, e1, e2, ⟨u, hp, hb, hF⟩, hce, hcv, hcl, st⟩
  · cases hv
    obtain ⟨k1, k2, k3⟩ := vx_keep h0 e1 hS hA hf hL hF
    obtain ⟨t2, a1, b1⟩ := kk r u t T'.heap (locs ++ L) e1.symm (by rw [← e2]; exact X'.warmed.alike) hp hb k1 k2 k3 T' rfl X'
    exact ⟨t2, st t2 a1, b1⟩
  · obtain ⟨k1, k2, k3⟩ := vx_keep h0 e1 hS hAX hf hL hF
    obtain ⟨t2, a1, b1⟩ := kx E ce q u t T'.heap (locs ++ L) e1.symm (by rw [← e2]; exact X'.warmed.alike) hp hb k1 k2 k3 (by rw [e1]; exact hce) hcv hcl T' rfl X'
    exact ⟨t2, st.trans a1, b1⟩
theorem vx_callf {S SX : Type} {post : UInt32 → S → Prop} {px : SX → Prop} {B : S → State → Prop} {BX : String → SX → State → Prop} {AX : Nat → Prop} (hr : vx_Run p l e R s m args below meth c H locs cells slots mc ms (F0 m pc ls st0) rest (va_Qf post B A1 a) (vx_X px BX AX) free) (hS : va_S A0 H0 H locs) (hA : ∀ q, q < H.size → A1 q → A0 q) (hf : ∀ q, free q → A0 q) (hAX : ∀ q, q < H.size → AX q → A0 q)
    (kx : ∀ (E : String) (ce : Cell) (q9 : Addr) (u : SX) (t : State) (H1 : Heap) (locs1 : List Loc), t.heap = H1 → s.vm.Alike t.vm → px u → BX E u t → H.size ≤ H1.size → (∀ q : Nat, q < H.size → ¬ AX q → H1[q]? = H[q]?) → va_S A0 H0 H1 locs1 → H1[q9]? = some ce → ce.vm = .none → s.vm.findClass E = some ce.cls → vx_W p l e R s m args below meth c H1 locs1 (cells + mc) (slots + ms) Q (F0 m pc ls rest) q9)
    (kk : ∀ (r : UInt32) (u : S) (t : State) (H1 : Heap) (locs1 : List Loc), t.heap = H1 → s.vm.Alike t.vm → post r u → B u t → H.size ≤ H1.size → (∀ q : Nat, q < H.size → ¬ A1 q → H1[q]? = H[q]?) → va_S A0 H0 H1 locs1 → W p l e R s m args below meth c H1 locs1 (cells + mc) (slots + ms) Q (F0 m (pc + 3) ls (.float r :: rest))) : W p l e R s m args below meth c H locs cells slots Q (F0 m pc ls st0) := by
  intro T hT X
  rcases hr T hT X with ⟨v, st₀, t, T', L, h0, X', hL, e1, e2, ⟨⟨r, u, hv, hp, hb⟩, hF⟩, st⟩ | ⟨q, st₀, t, T', L, E, ce, h0, X', hL, e1, e2, ⟨u, hp, hb, hF⟩, hce, hcv, hcl, st⟩
  · cases hv
    obtain ⟨k1, k2, k3⟩ := vx_keep h0 e1 hS hA hf hL hF
    obtain ⟨t2, a1, b1⟩ := kk r u t T'.heap (locs ++ L) e1.symm (by rw [← e2]; exact X'.warmed.alike) hp hb k1 k2 k3 T' rfl X'
    exact ⟨t2, st t2 a1, b1⟩
  · obtain ⟨k1, k2, k3⟩ := vx_keep h0 e1 hS hAX hf hL hF
    obtain ⟨t2, a1, b1⟩ := kx E ce q u t T'.heap (locs ++ L) e1.symm (by rw [← e2]; exact X'.warmed.alike) hp hb k1 k2 k3 (by rw [e1]; exact hce) hcv hcl T' rfl X'
    exact ⟨t2, st.trans a1, b1⟩
theorem vx_calld {S SX : Type} {post : UInt64 → S → Prop} {px : SX → Prop} {B : S → State → Prop} {BX : String → SX → State → Prop} {AX : Nat → Prop} (hr : vx_Run p l e R s m args below meth c H locs cells slots mc ms (F0 m pc ls st0) rest (va_Qd post B A1 a) (vx_X px BX AX) free) (hS : va_S A0 H0 H locs) (hA : ∀ q, q < H.size → A1 q → A0 q) (hf : ∀ q, free q → A0 q) (hAX : ∀ q, q < H.size → AX q → A0 q)
    (kx : ∀ (E : String) (ce : Cell) (q9 : Addr) (u : SX) (t : State) (H1 : Heap) (locs1 : List Loc), t.heap = H1 → s.vm.Alike t.vm → px u → BX E u t → H.size ≤ H1.size → (∀ q : Nat, q < H.size → ¬ AX q → H1[q]? = H[q]?) → va_S A0 H0 H1 locs1 → H1[q9]? = some ce → ce.vm = .none → s.vm.findClass E = some ce.cls → vx_W p l e R s m args below meth c H1 locs1 (cells + mc) (slots + ms) Q (F0 m pc ls rest) q9)
    (kk : ∀ (r : UInt64) (u : S) (t : State) (H1 : Heap) (locs1 : List Loc), t.heap = H1 → s.vm.Alike t.vm → post r u → B u t → H.size ≤ H1.size → (∀ q : Nat, q < H.size → ¬ A1 q → H1[q]? = H[q]?) → va_S A0 H0 H1 locs1 → W p l e R s m args below meth c H1 locs1 (cells + mc) (slots + ms) Q (F0 m (pc + 3) ls (.double r :: rest))) : W p l e R s m args below meth c H locs cells slots Q (F0 m pc ls st0) := by
  intro T hT X
  rcases hr T hT X with ⟨v, st₀, t, T', L, h0, X', hL, e1, e2, ⟨⟨r, u, hv, hp, hb⟩, hF⟩, st⟩ | ⟨q, st₀, t, T', L, E, ce, h0, X', hL, e1, e2, ⟨u, hp, hb, hF⟩, hce, hcv, hcl, st⟩
  · cases hv
    obtain ⟨k1, k2, k3⟩ := vx_keep h0 e1 hS hA hf hL hF
    obtain ⟨t2, a1, b1⟩ := kk r u t T'.heap (locs ++ L) e1.symm (by rw [← e2]; exact X'.warmed.alike) hp hb k1 k2 k3 T' rfl X'
    exact ⟨t2, st t2 a1, b1⟩
  · obtain ⟨k1, k2, k3⟩ := vx_keep h0 e1 hS hAX hf hL hF
    obtain ⟨t2, a1, b1⟩ := kx E ce q u t T'.heap (locs ++ L) e1.symm (by rw [← e2]; exact X'.warmed.alike) hp hb k1 k2 k3 (by rw [e1]; exact hce) hcv hcl T' rfl X'
    exact ⟨t2, st.trans a1, b1⟩
theorem vx_callv {S SX : Type} {post : S → Prop} {px : SX → Prop} {B : S → State → Prop} {BX : String → SX → State → Prop} {AX : Nat → Prop} (hr : vx_Run p l e R s m args below meth c H locs cells slots mc ms (F0 m pc ls st0) rest (va_Qv post B A1 a) (vx_X px BX AX) free) (hS : va_S A0 H0 H locs) (hA : ∀ q, q < H.size → A1 q → A0 q) (hf : ∀ q, free q → A0 q) (hAX : ∀ q, q < H.size → AX q → A0 q)
    (kx : ∀ (E : String) (ce : Cell) (q9 : Addr) (u : SX) (t : State) (H1 : Heap) (locs1 : List Loc), t.heap = H1 → s.vm.Alike t.vm → px u → BX E u t → H.size ≤ H1.size → (∀ q : Nat, q < H.size → ¬ AX q → H1[q]? = H[q]?) → va_S A0 H0 H1 locs1 → H1[q9]? = some ce → ce.vm = .none → s.vm.findClass E = some ce.cls → vx_W p l e R s m args below meth c H1 locs1 (cells + mc) (slots + ms) Q (F0 m pc ls rest) q9)
    (kk : ∀ (u : S) (t : State) (H1 : Heap) (locs1 : List Loc), t.heap = H1 → s.vm.Alike t.vm → post u → B u t → H.size ≤ H1.size → (∀ q : Nat, q < H.size → ¬ A1 q → H1[q]? = H[q]?) → va_S A0 H0 H1 locs1 → W p l e R s m args below meth c H1 locs1 (cells + mc) (slots + ms) Q (F0 m (pc + 3) ls (rest))) : W p l e R s m args below meth c H locs cells slots Q (F0 m pc ls st0) := by
  intro T hT X
  rcases hr T hT X with ⟨v, st₀, t, T', L, h0, X', hL, e1, e2, ⟨⟨u, hv, hp, hb⟩, hF⟩, st⟩ | ⟨q, st₀, t, T', L, E, ce, h0, X', hL, e1, e2, ⟨u, hp, hb, hF⟩, hce, hcv, hcl, st⟩
  · cases hv
    obtain ⟨k1, k2, k3⟩ := vx_keep h0 e1 hS hA hf hL hF
    obtain ⟨t2, a1, b1⟩ := kk u t T'.heap (locs ++ L) e1.symm (by rw [← e2]; exact X'.warmed.alike) hp hb k1 k2 k3 T' rfl X'
    exact ⟨t2, st t2 a1, b1⟩
  · obtain ⟨k1, k2, k3⟩ := vx_keep h0 e1 hS hAX hf hL hF
    obtain ⟨t2, a1, b1⟩ := kx E ce q u t T'.heap (locs ++ L) e1.symm (by rw [← e2]; exact X'.warmed.alike) hp hb k1 k2 k3 (by rw [e1]; exact hce) hcv hcl T' rfl X'
    exact ⟨t2, st.trans a1, b1⟩
/-- caught by the row x of this method's table; the rows ahead don't take it -/
theorem vx_catch {own name : String} {E : String} {ce : Cell} {q : Addr} (hown : s.vm.findClass own = some m.cls) (pre : List ExceptionTableEntry) (x : ExceptionTableEntry) (suf : List ExceptionTableEntry) (hsplit : c.exceptionTable.toList = pre ++ x :: suf)
    (hpass : ∀ z ∈ pre, covers z pc = false ∨ (z.catchType ≠ 0 ∧ ∃ nm : String, (Cond.classLink own z.catchType nm).before args s = true ∧ va_Nc E nm s)) (hx : covers x pc = true) (h0 : x.catchType ≠ 0)
    (hlink : (Cond.classLink own x.catchType name).before args s = true) (hcast : (Cond.castable E name).before args s = true) (hcell : H[q]? = some ce) (hv : ce.vm = .none) (hcl : s.vm.findClass E = some ce.cls)
    (kk : W p l e R s m args below meth c H locs cells slots Q (F0 m x.handlerPc ls [.ref q])) : vx_W p l e R s m args below meth c H locs cells slots Q (F0 m pc ls rest) q := by
  intro T hT X
  have hpl : e.platform.magicAccessors = ({} : Platform).magicAccessors := by rw [X.admits.platform]
  obtain ⟨c3, c4, hc3, hc4, hasg⟩ := Cond.castable_spec hcast
  cases Option.some.inj (hc3.symm.trans hcl)
  obtain ⟨c5, hc5, hcl5⟩ := Cond.classLink_spec hown hlink e.platform hpl
  cases Option.some.inj (hc4.symm.trans hc5)
  obtain ⟨vm', X', st⟩ := X.thenCaughtThrough q (g := F0 m pc ls rest) rfl (Steps.refl _) (by rw [hT]; exact hcell) (by rw [hv]; rfl) (by obtain ⟨k9, h9, -⟩ := Vm.findClass_spec hcl; exact ⟨k9, h9⟩) pre x suf hsplit
    (fun z hz => by
      rcases hpass z hz with h | ⟨hz0, nm, hl1, hn1⟩
      · exact Or.inl h
      · obtain ⟨c6, hc6, hcl6⟩ := Cond.classLink_spec hown hl1 e.platform hpl
        obtain ⟨a8, b8, h1, h2, h3⟩ := hn1
        cases Option.some.inj (h1.symm.trans hcl)
        cases Option.some.inj (h2.symm.trans hc6)
        exact Or.inr ⟨hz0, _, hcl6, h3⟩) hx (Or.inr ⟨h0, c4, hcl5, hasg⟩)
  obtain ⟨t, a1, b1⟩ := kk (T.setVm vm') hT X'
  exact ⟨t, st.trans a1, b1⟩
end Rows
section Ends
variable {p : Program} {l : Launch} {e : Env} {R : Room} {s : State} {m : MethodId} {args : Array Value} {below : List Frame} {meth : Method} {c : Code} {H : Heap} {locs : List Loc} {cells slots : Nat} {Q : State → Prop}
variable {mc ms : Nat} {free : Addr → Prop} {A0 A1 : Nat → Prop} {H0 : Heap} {a : Array Value} {ls : Array Slot} {st0 rest : List Value}
variable {Qc : Array Value → State → Outcome → State → Prop} {XC : String → State → State → Prop}
/-- what a body that may throw owes at its end -/
def vx_MQ (below : List Frame) (Qc : Array Value → State → Outcome → State → Prop) (XC : String → State → State → Prop) (a : Array Value) (s : State) (mc ms : Nat) (free : Addr → Prop) : State → Prop := fun t =>
  ∃ o, t.status = .running ∧ Ended t below o ∧ vx_Q Qc XC mc ms free a s o t
theorem vx_ret {g : JFrame} {mc ms : Nat} (k : W p l e R s m args below meth c H locs cells slots (MQ below Qc args s mc ms free) g) : W p l e R s m args below meth c H locs cells slots (vx_MQ below Qc XC args s mc ms free) g := by
  intro T hT X
  obtain ⟨t, a1, o, b1, b2, b3, b4⟩ := k T hT X
  exact ⟨t, a1, o, b1, b2, Or.inl ⟨b3, b4⟩⟩
/-- not caught here: it goes on to the caller -/
theorem vx_widen {g : JFrame} {q : Addr} {k n : Nat} (h1 : cells ≤ k) (h2 : slots ≤ n) (kk : vx_W p l e R s m args below meth c H locs k n Q g q) : vx_W p l e R s m args below meth c H locs cells slots Q g q := fun T hT X => kk T hT (stand_widen X h1 h2)
theorem vx_out {pc : Nat} {E : String} {ce : Cell} {q : Addr} {mc ms : Nat} (hout : ∀ x ∈ c.exceptionTable.toList, covers x pc = false) (hlocks : meth.locks = false) (hcell : H[q]? = some ce) (hv : ce.vm = .none) (hcl : s.vm.findClass E = some ce.cls)
    (hx : ∀ t : State, t.heap = H → s.vm.Alike t.vm → XC E s t) (hf : ∀ z ∈ locs, free z.base) (hc : cells ≤ mc) (hs : slots ≤ ms) :
    vx_W p l e R s m args below meth c H locs cells slots (vx_MQ below Qc XC args s mc ms free) (F0 m pc ls rest) q := by
  intro T hT X
  obtain ⟨st1, hrun, hend, hW, hsm⟩ := X.leaveThrown q (g := F0 m pc ls rest) rfl rfl rfl hout hlocks
  have hcell9 : (T.setFrames (.throwing q :: below)).heap[q]? = some ce := by
    show T.heap[q]? = some ce
    rw [hT]; exact hcell
  exact ⟨_, st1, .threw q, hrun, hend, Or.inr ⟨q, rfl, E, ce, locs, hx _ hT hW.alike, hcell9, hv, hcl, hW, hsm.mono hc hs, hf⟩⟩
theorem vx_frame {U : State} {k n : Nat} (h : s.sameButNew ({ U with vm := s.vm } : State) locs k n) : s.heap.size ≤ U.heap.size ∧ ∀ q : Nat, q < s.heap.size → (∀ z ∈ locs, z.base ≠ q) → U.heap[q]? = s.heap[q]? := by
  obtain ⟨-, h2, -, -, -, h6⟩ := h
  refine ⟨h2, fun q hq hz => ?_⟩
  obtain ⟨c9, e1, e2, e3, e4⟩ := h6 q _ (Array.getElem?_eq_getElem hq)
  have hs : c9.slots = (s.heap[q]).slots := Array.ext_getElem? fun i => e4 i fun hm => hz _ hm rfl
  have h9 : c9 = s.heap[q] := by
    rw [hs] at e2
    exact e2
  have e5 : U.heap[q]? = some c9 := e1
  rw [e5, h9, Array.getElem?_eq_getElem hq]
/-- the words of a throw but the four that speak of the heap -/
def vx_no (w : Cond) : Bool := decide (w ≠ .isRef (.static Bundle.tN "UNASSIGNED_STACK" Bundle.steD)) && decide (w ≠ .isRef (.static Bundle.tN "SUPPRESSED_SENTINEL" Bundle.listD)) && decide (w ≠ .laysStatic Bundle.tN "UNASSIGNED_STACK" Bundle.steD) && decide (w ≠ .laysStatic Bundle.tN "SUPPRESSED_SENTINEL" Bundle.listD)
def vx_at0 (own : String) (ic : Nat) (X : String) (names : List String) : List Cond := (Bundle.ownAtoms0 own ic X names).filter vx_no
def vx_atS (own : String) (ic : Nat) (X : String) (names : List String) : List Cond := (Bundle.ownAtoms own ic X names).filter vx_no
/-- a word that the tables alone decide, or a good one -/
def vx_ot (w : Cond) : Bool := w.onTables || goodWord w
theorem vx_ot_at {args a' : Array Value} {s U : State} {w : Cond} (hW : s.WarmedH U.vm) (hvm : s.vm = U.vm) (hg : vx_ot w = true) (h : w.before args s = true) : w.before a' U = true := by
  simp only [vx_ot, Bool.or_eq_true] at hg
  rcases hg with hg | hg
  · exact va_tabs hg hvm h
  · exact word_at hW (good_of_word hg) h
/-- a list's words: the good ones out of the method's own list, the others by premises of their own -/
theorem vx_hat {args : Array Value} {s : State} {L B : List Cond} (h1 : ∀ w ∈ L.filter goodWord, w.before args s = true) (h2 : ∀ w ∈ L.filter (fun w => !goodWord w), w ∈ B) (h3 : ∀ w ∈ B, w.before args s = true) : ∀ w ∈ L, w.before args s = true := by
  intro w hw
  by_cases g : goodWord w = true
  · exact h1 w (List.mem_filter.mpr ⟨hw, g⟩)
  · refine h3 w (h2 w (List.mem_filter.mpr ⟨hw, ?_⟩))
    show (!goodWord w) = true
    cases hgw : goodWord w
    · rfl
    · exact absurd hgw g
theorem vx_c {args : Array Value} {s : State} {w : Cond} {B : List Cond} (h : w.before args s = true) (t : ∀ w ∈ B, w.before args s = true) : ∀ w' ∈ w :: B, w'.before args s = true := fun w' h' => (List.mem_cons.mp h').elim (fun e => by rw [e]; exact h) (t w')
theorem vx_n {args : Array Value} {s : State} : ∀ w ∈ ([] : List Cond), w.before args s = true := fun _ h => nomatch h
theorem vx_own {args : Array Value} {s : State} {L : List Cond} (h1 : ∀ w ∈ L.filter vx_no, w.before args s = true)
    (hU : (Cond.isRef (.static Bundle.tN "UNASSIGNED_STACK" Bundle.steD)).before args s = true) (hN : (Cond.isRef (.static Bundle.tN "SUPPRESSED_SENTINEL" Bundle.listD)).before args s = true)
    (lU : (Cond.laysStatic Bundle.tN "UNASSIGNED_STACK" Bundle.steD).before args s = true) (lN : (Cond.laysStatic Bundle.tN "SUPPRESSED_SENTINEL" Bundle.listD).before args s = true) : ∀ w ∈ L, w.before args s = true := by
  intro w hw
  by_cases e1 : w = .isRef (.static Bundle.tN "UNASSIGNED_STACK" Bundle.steD)
  · rw [e1]; exact hU
  · by_cases e2 : w = .isRef (.static Bundle.tN "SUPPRESSED_SENTINEL" Bundle.listD)
    · rw [e2]; exact hN
    · by_cases e3 : w = .laysStatic Bundle.tN "UNASSIGNED_STACK" Bundle.steD
      · rw [e3]; exact lU
      · by_cases e4 : w = .laysStatic Bundle.tN "SUPPRESSED_SENTINEL" Bundle.listD
        · rw [e4]; exact lN
        · exact h1 w (List.mem_filter.mpr ⟨hw, by unfold vx_no; rw [decide_eq_true e1, decide_eq_true e2, decide_eq_true e3, decide_eq_true e4]; rfl⟩)
/-- where a static field lies, its class's statics cell in H -/
def vx_L (C n d : String) (A : Nat → Prop) (U : State) (H : Heap) : Prop := ∃ (c : ClassId) (k : Class) (i : Nat) (f : Field) (a : Nat) (cell : Cell), U.vm.findClass C = some c ∧ U.fieldFound? C n d = some (c, k, i, f) ∧ f.isStatic = true ∧ k.statics = some a ∧ H[a]? = some cell ∧ cell.vm.isStatics = true ∧ cell.cls = c ∧ f.slot < cell.slots.size ∧ k.staticTypes[f.slot]? = some f.type ∧ ¬ A a
theorem vx_L.moved {C n d : String} {A : Nat → Prop} {u U : State} {H : Heap} (hvm : u.vm.Alike U.vm) (h : vx_L C n d A u H) : vx_L C n d A U H := by
  obtain ⟨c, k, i, f, a, cell, h1, h2, h3, h4, h5, h6, h7, h8, h9, h10⟩ := h
  obtain ⟨k', hi', he⟩ := State.fieldFound?_setVm hvm h2
  exact ⟨c, k', i, f, a, cell, by rw [hvm.findClass]; exact h1, hi', h3, by rw [he]; exact h4, h5, h6, h7, h8, by rw [he]; exact h9, h10⟩
theorem vx_L.kept {C n d : String} {A : Nat → Prop} {U : State} {H H1 : Heap} (h : vx_L C n d A U H) (hq : ∀ a : Nat, a < H.size → ¬ A a → H1[a]? = H[a]?) : vx_L C n d A U H1 := by
  obtain ⟨c, k, i, f, a, cell, h1, h2, h3, h4, h5, h6, h7, h8, h9, h10⟩ := h
  exact ⟨c, k, i, f, a, cell, h1, h2, h3, h4, by rw [hq a (Array.getElem?_eq_some_iff.mp h5).1 h10]; exact h5, h6, h7, h8, h9, h10⟩
theorem vx_L.narrow {C n d : String} {A B : Nat → Prop} {U : State} {H : Heap} (h : vx_L C n d A U H) (hAB : ∀ q, B q → A q) : vx_L C n d B U H := by
  obtain ⟨c, k, i, f, a, cell, h1, h2, h3, h4, h5, h6, h7, h8, h9, h10⟩ := h
  exact ⟨c, k, i, f, a, cell, h1, h2, h3, h4, h5, h6, h7, h8, h9, fun z => h10 (hAB _ z)⟩
theorem vx_L.word {C n d : String} {A : Nat → Prop} {s : State} {args : Array Value} (h : vx_L C n d A s s.heap) : (Cond.laysStatic C n d).before args s = true := by
  obtain ⟨c, k, i, f, a, cell, h1, h2, h3, h4, h5, h6, h7, h8, h9, -⟩ := h
  show (Cond.laysStatic C n d).holds args s none s [] = true
  exact Cond.laysStatic_of h1 h2 h3 h4 h5 h6 h7 h8 h9
/-- .. and what it holds: null or some reference -/
def vx_Zq (C n d : String) (A : Nat → Prop) (U : State) (H : Heap) : Prop := va_Zq C n d A U H ∧ vx_L C n d A U H
theorem vx_Zq.moved {C n d : String} {A : Nat → Prop} {u U : State} {H : Heap} (hvm : u.vm.Alike U.vm) (h : vx_Zq C n d A u H) : vx_Zq C n d A U H := ⟨va_Zq.moved hvm h.1, vx_L.moved hvm h.2⟩
theorem vx_Zq.kept {C n d : String} {A : Nat → Prop} {U : State} {H H1 : Heap} (h : vx_Zq C n d A U H) (hq : ∀ a : Nat, a < H.size → ¬ A a → H1[a]? = H[a]?) : vx_Zq C n d A U H1 := ⟨va_Zq.kept h.1 hq, vx_L.kept h.2 hq⟩
theorem vx_Zq.narrow {C n d : String} {A B : Nat → Prop} {U : State} {H : Heap} (h : vx_Zq C n d A U H) (hAB : ∀ q, B q → A q) : vx_Zq C n d B U H := ⟨va_Zq.narrow h.1 hAB, vx_L.narrow h.2 hAB⟩
theorem vx_Zqof {args : Array Value} {s : State} {C n d : String} {A : Nat → Prop} (hl : (Cond.laysStatic C n d).before args s = true) (hini : (Cond.initialized C).before args s = true) (h : (Cond.isRef (.static C n d)).before args s = true) (hA : ∀ a : Nat, a < s.heap.size → ¬ A a) : vx_Zq C n d A s s.heap := by
  refine ⟨va_Zqof hl hini h hA, ?_⟩
  obtain ⟨c, k, i, f, a, cell, h1, h2, h3, h4, h5, h6, h7, h8, h9⟩ := Cond.laysStatic_spec hl
  exact ⟨c, k, i, f, a, cell, h1, h2, h3, h4, h5, h6, h7, h8, h9, hA a (Array.getElem?_eq_some_iff.mp h5).1⟩
theorem vx_isRef {C n d : String} {v : Value} {A : Nat → Prop} {s : State} {args : Array Value} (h : va_Z C n d v A s s.heap) (hv : v.isRef = true) : (Cond.isRef (.static C n d)).before args s = true := by
  obtain ⟨cf, kf, fi, f, a, cell, h1, h2, h3, h4, h5, h6, h7, -⟩ := h
  have he : (Term.static C n d).eval args s none [] s = some v := by
    simp [Term.eval, State.fieldNamed?, h1, h2, h4, h5, h6, h7]
  simp only [Cond.before, Cond.holds, Cond.value, he]
  cases v <;> simp_all [Value.isRef]
theorem vx_isRefq {C n d : String} {A : Nat → Prop} {s : State} {args : Array Value} (h : va_Zq C n d A s s.heap) : (Cond.isRef (.static C n d)).before args s = true := by
  rcases h with h | ⟨t, h⟩
  · exact vx_isRef h rfl
  · exact vx_isRef h rfl
/-- the same frame, seen from here: as if the method were called anew in this heap -/
theorem vx_rebase {T : State} (X : Stand p l e R s m args below meth c T locs cells slots) {R' : Room} (hf : R'.frames ≤ R.frames) (hl : R'.locals ≤ R.locals) (hc : cells + R'.cells ≤ R.cells) (hs : slots + R'.slots ≤ R.slots) :
    Stand p l e R' ((T.setVm s.vm).setFrames (.invoking m args :: below)) m args below meth c T [] 0 0 := by
  have htop : (T.setVm s.vm).topJava?.isSome := X.here.top
  have hF : ((T.setVm s.vm).setFrames (.invoking m args :: below)).frames = .invoking m args :: below := State.frames_setFrames _ (State.cur_lt_of_top htop)
  obtain ⟨g₀, hg0⟩ := Option.isSome_iff_exists.mp htop
  obtain ⟨r, hr⟩ := State.topJava?_eq_some.mp hg0
  have hl9 : e.platform.stackLimits (T.setVm s.vm).me = e.platform.stackLimits s.me := X.limits
  have hb9 : (T.setVm s.vm).me.stackBytes = s.me.stackBytes := X.bytes
  refine ⟨X.admits, X.cas, X.clock, hF, ?_, X.hears, X.method, X.code, X.here, X.tail, X.warmed, ?_, ?_, ?_⟩
  · have h := X.room
    have hU : ((T.setVm s.vm).setFrames (.invoking m args :: below)).localsInUse = s.localsInUse := by
      rw [State.localsInUse_invoking hF (meth := meth) (c := c) X.method X.code, State.localsInUse_invoking X.frames X.method X.code]
    simp only [State.hasRoom, Bool.and_eq_true, decide_eq_true_eq] at h ⊢
    obtain ⟨⟨⟨⟨h1, h2, h3, h4, h5, h6⟩, h7⟩, h8⟩, h9⟩ := h
    rw [X.frames, List.length_cons] at h2 h3
    have q1 := X.heapSize
    have q2 := X.used
    simp only [hF, hU, List.length_cons, State.stackLimits_setFrames, State.stackBytes_setFrames, hl9, hb9]
    refine ⟨⟨⟨⟨by omega, by omega, by omega, by omega, by omega, h6⟩, ?_⟩, ?_⟩, X.book⟩
    · show T.heap.size + R'.cells ≤ e.platform.maxCells
      omega
    · show T.slotsUsed + R'.slots ≤ e.platform.maxSlots
      omega
  · rw [State.stackLimits_setFrames]; rfl
  · rw [State.stackBytes_setFrames]; rfl
  · refine ⟨?_, Nat.le_refl _, Nat.le_refl _, ?_, ?_, fun a c9 h9 => ⟨c9, h9, rfl, rfl, fun _ _ => rfl⟩⟩
    · obtain ⟨t, ht, -⟩ := State.frames_cons hr
      show T.setVm s.vm = { ((T.setVm s.vm).setFrames (.invoking m args :: below)).setFrames (T.setVm s.vm).frames with heap := T.heap, slotsUsed := T.slotsUsed }
      rw [State.setFrames_setFrames, State.setFrames_self ht]
      rfl
    · show T.slotsUsed = T.slotsUsed + ((T.heap.toList.drop T.heap.size).map (·.slots.size)).sum
      rw [List.drop_eq_nil_of_le (Nat.le_of_eq Array.length_toList)]
      rfl
    · show ((T.heap.toList.drop T.heap.size).map (·.slots.size)).sum ≤ 0
      rw [List.drop_eq_nil_of_le (Nat.le_of_eq Array.length_toList)]
      exact Nat.le_refl _
/-- 'throw new E()': new; dup; invokespecial; athrow -/
theorem vx_throw0 {cc : ByteArray} {pc : Nat} (hexec : p.tables.exec = Jvm.exec) (hb : c.code = cc) (hl : l.stackTraces = false) {own cls : String} {names : List String} {ik ic mc ms : Nat} {A : Nat → Prop}
    (hown : s.vm.findClass own = some m.cls) (hcls : Bundle.fit cls = true) (hnames : ∀ n ∈ names, Bundle.fit n = true)
    (hk : (Cond.classLink own ik cls).before args s = true) (hini : (Cond.initialized cls).before args s = true) (hat : ∀ w ∈ vx_at0 own ic cls names, w.before args s = true)
    (hgood : ∀ w ∈ Cond.classLink own ik cls :: Cond.initialized cls :: vx_at0 own ic cls names, vx_ot w = true)
    (hU : vx_Zq Bundle.tN "UNASSIGNED_STACK" Bundle.steD A s s.heap) (hN : vx_Zq Bundle.tN "SUPPRESSED_SENTINEL" Bundle.listD A s s.heap) (hS : va_S A s.heap H locs) (hsize : ls.size = c.maxLocals)
    (d0 : decode cc pc = .ok (.new ik, 3)) (d3 : decode cc (pc + 3) = .ok (.dup, 1)) (d4 : decode cc (pc + 4) = .ok (.invokespecial ic, 3)) (d7 : decode cc (pc + 7) = .ok (.athrow, 1))
    (hout : ∀ x ∈ c.exceptionTable.toList, covers x (pc + 7) = false)
    (hRframes : names.length + 3 < R.frames) (hRlocals : (rest.map fun v => v.category).sum + (13 * (names.length + 1) + 42) ≤ R.locals) (hRcells : cells + 1 ≤ R.cells) (hRslots : slots + 6 ≤ R.slots) (hlocks : meth.locks = false)
    (hx : ∀ t : State, s.vm.Alike t.vm → H.size ≤ t.heap.size → (∀ q : Nat, q < H.size → t.heap[q]? = H[q]?) → XC cls s t)
    (hf : ∀ z ∈ locs, free z.base) (hc : cells + 1 ≤ mc) (hs : slots + 6 ≤ ms) :
    W p l e R s m args below meth c H locs cells slots (vx_MQ below Qc XC args s mc ms free) (F0 m pc ls rest) := by
  intro T hT X
  have htr : e.platform.stackTraces = false := (show e.platform.stackTraces = l.stackTraces by rw [X.admits.platform]).trans hl
  have Y := vx_rebase X (R' := { frames := R.frames, locals := R.locals, cells := 1, slots := 6 }) (Nat.le_refl _) (Nat.le_refl _) hRcells hRslots
  obtain ⟨s', hA⟩ : ∃ z, z = (T.setVm s.vm).setFrames (.invoking m args :: below) := ⟨_, rfl⟩
  rw [← hA] at Y
  have hvm : s'.vm = s.vm := by rw [hA]; rfl
  have hhp : s'.heap = H := by rw [hA]; exact hT
  have hW0 : s.WarmedH s'.vm := by rw [hvm]; exact State.WarmedH.refl s
  have hat' : ∀ w ∈ vx_at0 own ic cls names, w.before args s' = true := fun w hw => vx_ot_at hW0 hvm.symm (hgood w (List.mem_cons_of_mem _ (List.mem_cons_of_mem _ hw))) (hat w hw)
  have hk' : (Cond.classLink own ik cls).before args s' = true := vx_ot_at hW0 hvm.symm (hgood _ List.mem_cons_self) hk
  have hini' : (Cond.initialized cls).before args s' = true := vx_ot_at hW0 hvm.symm (hgood _ (List.mem_cons_of_mem _ List.mem_cons_self)) hini
  have hU' : vx_Zq Bundle.tN "UNASSIGNED_STACK" Bundle.steD A s' s'.heap := by rw [hhp]; exact vx_Zq.moved hW0.alike (hU.kept hS.2.1)
  have hN' : vx_Zq Bundle.tN "SUPPRESSED_SENTINEL" Bundle.listD A s' s'.heap := by rw [hhp]; exact vx_Zq.moved hW0.alike (hN.kept hS.2.1)
  have h : ∀ w ∈ Bundle.ownAtoms0 own ic cls names, w.before args s' = true := vx_own hat' (vx_isRefq hU'.1) (vx_isRefq hN'.1) hU'.2.word hN'.2.word
  have hown' : s'.vm.findClass own = some m.cls := by rw [hvm]; exact hown
  have hins : (Cond.instantiable cls 6).before args s' = true := h _ (by simp [Bundle.ownAtoms0])
  obtain ⟨vm₁, cX, kX, hfX, hkX, -, -, X₁, st1⟩ := Y.newCold hexec (own := own) (C := cls) (index := ik) (n := 6) hown' hk' hins hini'
    (g := F0 m pc ls rest) rfl (by rw [hb]; exact d0) (Nat.le_refl _) (Nat.le_refl _)
  generalize hT1 : (T.setVm vm₁).pushCell { cls := cX, slots := kX.instanceTypes.map defaultValue, vm := .none } = T1 at X₁ st1
  have hcat : (Value.ref T.heap.size).category = 1 := rfl
  have hcellA : T1.heap[T.heap.size]? = some (freshCell cX kX) := by rw [← hT1]; exact State.heap_pushCell_size _ _
  have d3' : decode c.code (pc + 3) = .ok (.dup, 1) := by rw [hb]; exact d3
  obtain ⟨U, hsteps, hrun, hend, hW, hsame, ce, hce, hO⟩ := X₁.ctorThrow0 hexec htr (own := own) (cls := cls) (names := names) (ic := ic) hown' hcls hnames h (fun x hx => nomatch hx) hfX hkX hcellA (by rw [hhp, hT]; exact Nat.le_refl _)
    (g := { method := m, pc := pc + 4, locals := ls, stack := .ref T.heap.size :: .ref T.heap.size :: rest, locked := none }) rfl hsize rfl rfl (rest := rest) rfl
    (by rw [hb]; exact d4) (by rw [hb]; exact d7) hout hRframes (by simp only [List.map_cons, List.sum_cons, hcat]; omega) hlocks
  obtain ⟨f1, f2⟩ := vx_frame hsame
  rw [hhp] at f1 f2
  have hWs : s.WarmedH U.vm := State.WarmedH.trans hW0 hW
  have hcl : s.vm.findClass cls = some ce.cls := by
    have h9 := hO.cls
    rw [hvm] at h9
    exact h9
  have hall : s.sameButNew ({ U with vm := s.vm } : State) locs mc ms := by
    subst hA
    obtain ⟨e1, e2⟩ := hsame
    rw [State.setFrames_setFrames] at e1
    have h2 : (T.setVm s.vm).sameButNew ({ U with vm := s.vm } : State) [] (0 + 1) (0 + 6) := ⟨e1, e2⟩
    have h3 := X.same.trans h2
    rw [List.append_nil] at h3
    exact h3.mono hc hs
  refine ⟨U, ?_, .threw T.heap.size, hrun, hend, Or.inr ⟨T.heap.size, rfl, cls, ce, locs, hx U hWs.alike f1 (fun q hq => f2 q hq (fun z hz => nomatch hz)), hce, hO.vm, hcl, hWs, hall, hf⟩⟩
  refine st1 _ ?_
  show Steps p.tables e below (T1.setTop { method := m, pc := pc + 3, locals := ls, stack := .ref T.heap.size :: rest, locked := none }) _
  jvm_step X₁.here [X₁.here.top, hexec, d3', Value.category]
  exact hsteps
/-- 'throw new E("text")': new; dup; ldc; invokespecial; athrow -/
theorem vx_throwS {cc : ByteArray} {pc : Nat} (hexec : p.tables.exec = Jvm.exec) (hb : c.code = cc) (hl : l.stackTraces = false) {own cls text : String} {names : List String} {ik is ic mc ms sa : Nat} {A : Nat → Prop}
    (hown : s.vm.findClass own = some m.cls) (hcls : Bundle.fit cls = true) (hnames : ∀ n ∈ names, Bundle.fit n = true)
    (hk : (Cond.classLink own ik cls).before args s = true) (hini : (Cond.initialized cls).before args s = true) (hstr : vk_R own is text sa s) (hat : ∀ w ∈ vx_atS own ic cls names, w.before args s = true)
    (hgood : ∀ w ∈ Cond.classLink own ik cls :: Cond.initialized cls :: vx_atS own ic cls names, vx_ot w = true)
    (hU : vx_Zq Bundle.tN "UNASSIGNED_STACK" Bundle.steD A s s.heap) (hN : vx_Zq Bundle.tN "SUPPRESSED_SENTINEL" Bundle.listD A s s.heap) (hS : va_S A s.heap H locs) (hsize : ls.size = c.maxLocals)
    (d0 : decode cc pc = .ok (.new ik, 3)) (d3 : decode cc (pc + 3) = .ok (.dup, 1)) (d4 : decode cc (pc + 4) = .ok (.ldc is, 2)) (d6 : decode cc (pc + 6) = .ok (.invokespecial ic, 3)) (d9 : decode cc (pc + 9) = .ok (.athrow, 1))
    (hout : ∀ x ∈ c.exceptionTable.toList, covers x (pc + 9) = false)
    (hRframes : names.length + 3 < R.frames) (hRlocals : (rest.map fun v => v.category).sum + (13 * (names.length + 1) + 43) ≤ R.locals) (hRcells : cells + 1 ≤ R.cells) (hRslots : slots + 6 ≤ R.slots) (hlocks : meth.locks = false)
    (hx : ∀ t : State, s.vm.Alike t.vm → H.size ≤ t.heap.size → (∀ q : Nat, q < H.size → t.heap[q]? = H[q]?) → XC cls s t)
    (hf : ∀ z ∈ locs, free z.base) (hc : cells + 1 ≤ mc) (hs : slots + 6 ≤ ms) :
    W p l e R s m args below meth c H locs cells slots (vx_MQ below Qc XC args s mc ms free) (F0 m pc ls rest) := by
  intro T hT X
  have htr : e.platform.stackTraces = false := (show e.platform.stackTraces = l.stackTraces by rw [X.admits.platform]).trans hl
  have Y := vx_rebase X (R' := { frames := R.frames, locals := R.locals, cells := 1, slots := 6 }) (Nat.le_refl _) (Nat.le_refl _) hRcells hRslots
  obtain ⟨s', hA⟩ : ∃ z, z = (T.setVm s.vm).setFrames (.invoking m args :: below) := ⟨_, rfl⟩
  rw [← hA] at Y
  have hvm : s'.vm = s.vm := by rw [hA]; rfl
  have hhp : s'.heap = H := by rw [hA]; exact hT
  have hW0 : s.WarmedH s'.vm := by rw [hvm]; exact State.WarmedH.refl s
  have hat' : ∀ w ∈ vx_atS own ic cls names, w.before args s' = true := fun w hw => vx_ot_at hW0 hvm.symm (hgood w (List.mem_cons_of_mem _ (List.mem_cons_of_mem _ hw))) (hat w hw)
  have hk' : (Cond.classLink own ik cls).before args s' = true := vx_ot_at hW0 hvm.symm (hgood _ List.mem_cons_self) hk
  have hini' : (Cond.initialized cls).before args s' = true := vx_ot_at hW0 hvm.symm (hgood _ (List.mem_cons_of_mem _ List.mem_cons_self)) hini
  have hU' : vx_Zq Bundle.tN "UNASSIGNED_STACK" Bundle.steD A s' s'.heap := by rw [hhp]; exact vx_Zq.moved hW0.alike (hU.kept hS.2.1)
  have hN' : vx_Zq Bundle.tN "SUPPRESSED_SENTINEL" Bundle.listD A s' s'.heap := by rw [hhp]; exact vx_Zq.moved hW0.alike (hN.kept hS.2.1)
  have h : ∀ w ∈ Bundle.ownAtoms own ic cls names, w.before args s' = true := vx_own hat' (vx_isRefq hU'.1) (vx_isRefq hN'.1) hU'.2.word hN'.2.word
  have hown' : s'.vm.findClass own = some m.cls := by rw [hvm]; exact hown
  have hins : (Cond.instantiable cls 6).before args s' = true := h _ (by simp [Bundle.ownAtoms])
  obtain ⟨vm₁, cX, kX, hfX, hkX, -, -, X₁, st1⟩ := Y.newCold hexec (own := own) (C := cls) (index := ik) (n := 6) hown' hk' hins hini'
    (g := F0 m pc ls rest) rfl (by rw [hb]; exact d0) (Nat.le_refl _) (Nat.le_refl _)
  generalize hT1 : (T.setVm vm₁).pushCell { cls := cX, slots := kX.instanceTypes.map defaultValue, vm := .none } = T1 at X₁ st1
  have hcat : (Value.ref T.heap.size).category = 1 := rfl
  have hcellA : T1.heap[T.heap.size]? = some (freshCell cX kX) := by rw [← hT1]; exact State.heap_pushCell_size _ _
  have d3' : decode c.code (pc + 3) = .ok (.dup, 1) := by rw [hb]; exact d3
  have d4' : decode c.code (pc + 4) = .ok (.ldc is, 2) := by rw [hb]; exact d4
  have hstr' : vk_R own is text sa s' := vk_R.warm hW0 hstr
  obtain ⟨U, hsteps, hrun, hend, hW, hsame, ce, hce, hO⟩ := X₁.ctorThrowS hexec htr (own := own) (cls := cls) (names := names) (ic := ic) hown' hcls hnames h (fun x hx => nomatch hx) hfX hkX hcellA (by rw [hhp, hT]; exact Nat.le_refl _) (msg := .ref sa) rfl
    (g := { method := m, pc := pc + 6, locals := ls, stack := .ref sa :: .ref T.heap.size :: .ref T.heap.size :: rest, locked := none }) rfl hsize rfl rfl (rest := rest) rfl
    (by rw [hb]; exact d6) (by rw [hb]; exact d9) hout hRframes (by simp only [List.map_cons, List.sum_cons, hcat]; omega) hlocks
  obtain ⟨f1, f2⟩ := vx_frame hsame
  rw [hhp] at f1 f2
  have hWs : s.WarmedH U.vm := State.WarmedH.trans hW0 hW
  have hcl : s.vm.findClass cls = some ce.cls := by
    have h9 := hO.cls
    rw [hvm] at h9
    exact h9
  have hall : s.sameButNew ({ U with vm := s.vm } : State) locs mc ms := by
    subst hA
    obtain ⟨e1, e2⟩ := hsame
    rw [State.setFrames_setFrames] at e1
    have h2 : (T.setVm s.vm).sameButNew ({ U with vm := s.vm } : State) [] (0 + 1) (0 + 6) := ⟨e1, e2⟩
    have h3 := X.same.trans h2
    rw [List.append_nil] at h3
    exact h3.mono hc hs
  refine ⟨U, ?_, .threw T.heap.size, hrun, hend, Or.inr ⟨T.heap.size, rfl, cls, ce, locs, hx U hWs.alike f1 (fun q hq => f2 q hq (fun z hz => nomatch hz)), hce, hO.vm, hcl, hWs, hall, hf⟩⟩
  refine st1 _ ?_
  show Steps p.tables e below (T1.setTop { method := m, pc := pc + 3, locals := ls, stack := .ref T.heap.size :: rest, locked := none }) _
  jvm_step X₁.here [X₁.here.top, hexec, d3', Value.category]
  exact X₁.ldcString hexec (own := own) (text := text) (index := is) (a := sa) hown' hstr'.1 hstr'.2
    (g := { method := m, pc := pc + 4, locals := ls, stack := .ref T.heap.size :: .ref T.heap.size :: rest, locked := none }) rfl d4' _ hsteps
/-- 'throw new E("text")', the text by a wide index -/
theorem vx_throwSW {cc : ByteArray} {pc : Nat} (hexec : p.tables.exec = Jvm.exec) (hb : c.code = cc) (hl : l.stackTraces = false) {own cls text : String} {names : List String} {ik is ic mc ms sa : Nat} {A : Nat → Prop}
    (hown : s.vm.findClass own = some m.cls) (hcls : Bundle.fit cls = true) (hnames : ∀ n ∈ names, Bundle.fit n = true)
    (hk : (Cond.classLink own ik cls).before args s = true) (hini : (Cond.initialized cls).before args s = true) (hstr : vk_R own is text sa s) (hat : ∀ w ∈ vx_atS own ic cls names, w.before args s = true)
    (hgood : ∀ w ∈ Cond.classLink own ik cls :: Cond.initialized cls :: vx_atS own ic cls names, vx_ot w = true)
    (hU : vx_Zq Bundle.tN "UNASSIGNED_STACK" Bundle.steD A s s.heap) (hN : vx_Zq Bundle.tN "SUPPRESSED_SENTINEL" Bundle.listD A s s.heap) (hS : va_S A s.heap H locs) (hsize : ls.size = c.maxLocals)
    (d0 : decode cc pc = .ok (.new ik, 3)) (d3 : decode cc (pc + 3) = .ok (.dup, 1)) (d4 : decode cc (pc + 4) = .ok (.ldc_w is, 3)) (d7 : decode cc (pc + 7) = .ok (.invokespecial ic, 3)) (d10 : decode cc (pc + 10) = .ok (.athrow, 1))
    (hout : ∀ x ∈ c.exceptionTable.toList, covers x (pc + 10) = false)
    (hRframes : names.length + 3 < R.frames) (hRlocals : (rest.map fun v => v.category).sum + (13 * (names.length + 1) + 43) ≤ R.locals) (hRcells : cells + 1 ≤ R.cells) (hRslots : slots + 6 ≤ R.slots) (hlocks : meth.locks = false)
    (hx : ∀ t : State, s.vm.Alike t.vm → H.size ≤ t.heap.size → (∀ q : Nat, q < H.size → t.heap[q]? = H[q]?) → XC cls s t)
    (hf : ∀ z ∈ locs, free z.base) (hc : cells + 1 ≤ mc) (hs : slots + 6 ≤ ms) :
    W p l e R s m args below meth c H locs cells slots (vx_MQ below Qc XC args s mc ms free) (F0 m pc ls rest) := by
  intro T hT X
  have htr : e.platform.stackTraces = false := (show e.platform.stackTraces = l.stackTraces by rw [X.admits.platform]).trans hl
  have Y := vx_rebase X (R' := { frames := R.frames, locals := R.locals, cells := 1, slots := 6 }) (Nat.le_refl _) (Nat.le_refl _) hRcells hRslots
  obtain ⟨s', hA⟩ : ∃ z, z = (T.setVm s.vm).setFrames (.invoking m args :: below) := ⟨_, rfl⟩
  rw [← hA] at Y
  have hvm : s'.vm = s.vm := by rw [hA]; rfl
  have hhp : s'.heap = H := by rw [hA]; exact hT
  have hW0 : s.WarmedH s'.vm := by rw [hvm]; exact State.WarmedH.refl s
  have hat' : ∀ w ∈ vx_atS own ic cls names, w.before args s' = true := fun w hw => vx_ot_at hW0 hvm.symm (hgood w (List.mem_cons_of_mem _ (List.mem_cons_of_mem _ hw))) (hat w hw)
  have hk' : (Cond.classLink own ik cls).before args s' = true := vx_ot_at hW0 hvm.symm (hgood _ List.mem_cons_self) hk
  have hini' : (Cond.initialized cls).before args s' = true := vx_ot_at hW0 hvm.symm (hgood _ (List.mem_cons_of_mem _ List.mem_cons_self)) hini
  have hU' : vx_Zq Bundle.tN "UNASSIGNED_STACK" Bundle.steD A s' s'.heap := by rw [hhp]; exact vx_Zq.moved hW0.alike (hU.kept hS.2.1)
  have hN' : vx_Zq Bundle.tN "SUPPRESSED_SENTINEL" Bundle.listD A s' s'.heap := by rw [hhp]; exact vx_Zq.moved hW0.alike (hN.kept hS.2.1)
  have h : ∀ w ∈ Bundle.ownAtoms own ic cls names, w.before args s' = true := vx_own hat' (vx_isRefq hU'.1) (vx_isRefq hN'.1) hU'.2.word hN'.2.word
  have hown' : s'.vm.findClass own = some m.cls := by rw [hvm]; exact hown
  have hins : (Cond.instantiable cls 6).before args s' = true := h _ (by simp [Bundle.ownAtoms])
  obtain ⟨vm₁, cX, kX, hfX, hkX, -, -, X₁, st1⟩ := Y.newCold hexec (own := own) (C := cls) (index := ik) (n := 6) hown' hk' hins hini'
    (g := F0 m pc ls rest) rfl (by rw [hb]; exact d0) (Nat.le_refl _) (Nat.le_refl _)
  generalize hT1 : (T.setVm vm₁).pushCell { cls := cX, slots := kX.instanceTypes.map defaultValue, vm := .none } = T1 at X₁ st1
  have hcat : (Value.ref T.heap.size).category = 1 := rfl
  have hcellA : T1.heap[T.heap.size]? = some (freshCell cX kX) := by rw [← hT1]; exact State.heap_pushCell_size _ _
  have d3' : decode c.code (pc + 3) = .ok (.dup, 1) := by rw [hb]; exact d3
  have d4' : decode c.code (pc + 4) = .ok (.ldc_w is, 3) := by rw [hb]; exact d4
  have hstr' : vk_R own is text sa s' := vk_R.warm hW0 hstr
  obtain ⟨U, hsteps, hrun, hend, hW, hsame, ce, hce, hO⟩ := X₁.ctorThrowS hexec htr (own := own) (cls := cls) (names := names) (ic := ic) hown' hcls hnames h (fun x hx => nomatch hx) hfX hkX hcellA (by rw [hhp, hT]; exact Nat.le_refl _) (msg := .ref sa) rfl
    (g := { method := m, pc := pc + 7, locals := ls, stack := .ref sa :: .ref T.heap.size :: .ref T.heap.size :: rest, locked := none }) rfl hsize rfl rfl (rest := rest) rfl
    (by rw [hb]; exact d7) (by rw [hb]; exact d10) hout hRframes (by simp only [List.map_cons, List.sum_cons, hcat]; omega) hlocks
  obtain ⟨f1, f2⟩ := vx_frame hsame
  rw [hhp] at f1 f2
  have hWs : s.WarmedH U.vm := State.WarmedH.trans hW0 hW
  have hcl : s.vm.findClass cls = some ce.cls := by
    have h9 := hO.cls
    rw [hvm] at h9
    exact h9
  have hall : s.sameButNew ({ U with vm := s.vm } : State) locs mc ms := by
    subst hA
    obtain ⟨e1, e2⟩ := hsame
    rw [State.setFrames_setFrames] at e1
    have h2 : (T.setVm s.vm).sameButNew ({ U with vm := s.vm } : State) [] (0 + 1) (0 + 6) := ⟨e1, e2⟩
    have h3 := X.same.trans h2
    rw [List.append_nil] at h3
    exact h3.mono hc hs
  refine ⟨U, ?_, .threw T.heap.size, hrun, hend, Or.inr ⟨T.heap.size, rfl, cls, ce, locs, hx U hWs.alike f1 (fun q hq => f2 q hq (fun z hz => nomatch hz)), hce, hO.vm, hcl, hWs, hall, hf⟩⟩
  refine st1 _ ?_
  show Steps p.tables e below (T1.setTop { method := m, pc := pc + 3, locals := ls, stack := .ref T.heap.size :: rest, locked := none }) _
  jvm_step X₁.here [X₁.here.top, hexec, d3', Value.category]
  exact X₁.ldcStringW hexec (own := own) (text := text) (index := is) (a := sa) hown' hstr'.1 hstr'.2
    (g := { method := m, pc := pc + 4, locals := ls, stack := .ref T.heap.size :: .ref T.heap.size :: rest, locked := none }) rfl d4' _ hsteps
end Ends
section Bodies
variable {l : Launch}
theorem vx_ofW {y : MethodName} {ws ws' : List Cond} {rm : Room} {Pc : Array Value → State → Prop} {Qc : Array Value → State → Outcome → State → Prop} {XC : String → State → State → Prop} {mc ms : Nat} {free : Addr → Prop} {cc : ByteArray} {maxL : Nat} {ret : Option FieldType}
    (hy : plainName y.cls = true) (hw : ws = Cond.code y cc maxL ret :: ws')
    (body : ∀ p e s m args below meth c s₁, BodyLoose p l y (headSpec ws rm) cc maxL ret e s m args below meth c s₁ → c.maxLocals = maxL → (∀ x ∈ c.exceptionTable.toList, False) → Pc args s →
      W p l e (headSpec ws rm).room s m args below meth c s.heap [] 0 0 (vx_MQ below Qc XC args s mc ms free) (entryFrame m args maxL)) : vx_Met l y ws rm Pc Qc XC mc ms free := by
  refine MetFree.of_bodyS (code := cc) (maxLocals := maxL) (ret := ret) hy ?_ ?_
  · intro args s m h hn
    obtain ⟨meth, c, h1, h2, h3, h4, h5, h6, -, -⟩ := Cond.code_spec hn (atoms_spec (ws := ws) h _ (by rw [hw]; exact List.mem_cons_self))
    exact ⟨meth, c, h1, h2, h3, h4, h5, h6⟩
  · intro p e s m args below meth c s₁ B hml hP _
    have hh0 : s₁.heap = s.heap := by rw [B.state]; rfl
    have ht : ∀ x ∈ c.exceptionTable.toList, False := by
      obtain ⟨meth9, c9, h1, h2, -, -, -, -, h7, -⟩ := Cond.code_spec B.named (atoms_spec (ws := ws) B.pre _ (by rw [hw]; exact List.mem_cons_self))
      cases Option.some.inj (h1.symm.trans B.method)
      cases Option.some.inj (h2.symm.trans (Stand.of_body B).code)
      intro x hx
      rw [Array.isEmpty_iff.mp h7] at hx
      cases hx
    obtain ⟨t, a1, o, b1, b2, b3⟩ := body p e s m args below meth c s₁ B hml ht hP s₁ hh0 (Stand.of_body B)
    exact ⟨t, o, a1, b1, b2, b3⟩
/-- the table of a body with handlers -/
theorem vx_table {p : Program} {x y : MethodName} {S : Spec} {cc bytes : ByteArray} {maxL maxL' : Nat} {ret ret' : Option FieldType} {e : Env} {s s₁ : State} {m : MethodId} {args : Array Value} {below : List Frame} {meth : Method} {c : Code} {hh : List (Nat × Nat × Nat × Nat)}
    (B : BodyLoose p l y S cc maxL ret e s m args below meth c s₁) (h : (Cond.codeWith y bytes maxL' ret' hh).before args s = true) : c.exceptionTable.toList = tableOf hh := by
  obtain ⟨m9, meth9, c9, hn9, h1, h2, -, -, h6, -⟩ := Cond.codeWith_spec h
  cases Option.some.inj (hn9.symm.trans B.named)
  cases Option.some.inj (h1.symm.trans B.method)
  cases Option.some.inj (h2.symm.trans (Stand.of_body B).code)
  rw [← h6, table_eq]
end Bodies
end VXA
/-! ===== END ===== -/
/-! ===== BEGIN a static call of a method with an exception table ===== -/
section VXS
variable {p : Program} {l : Launch} {e : Env} {R : Room} {s : State} {m : MethodId} {args : Array Value} {below : List Frame} {meth : Method} {c : Code} {T : State} {H : Heap} {locs : List Loc} {cells slots : Nat}
abbrev vx_CSW (R : Room) (s : State) (args : Array Value) (own : String) (index : Nat) (y : MethodName) (bytes : ByteArray) (maxL : Nat) (ret : Option FieldType) (hh : List (Nat × Nat × Nat × Nat)) (ws : List Cond) (rm : Room) (mc ms n : Nat) : Prop :=
  (rm.cells = mc ∧ rm.slots = ms ∧ rm.frames + 1 ≤ R.frames ∧ 8 + (maxL + 11) + rm.locals ≤ R.locals ∧ (∀ w ∈ ws, ∀ (a' : Array Value) (U : State), s.WarmedH U.vm → w.before a' U = true) ∧ Cond.codeWith y bytes maxL ret hh ∈ ws) ∧
  (Cond.codeWith y bytes maxL ret hh).before args s = true ∧ (Cond.initialized y.cls).before args s = true ∧ (y.cls ≠ "java/lang/invoke/MethodHandle" ∧ y.cls ≠ "java/lang/invoke/VarHandle") ∧
  (∀ sig, parseMethodDescriptor y.desc = some sig → n = sig.parameters.length) ∧ (Cond.methodLink own index y).before args s = true ∧ (Cond.static y).before args s = true
theorem vx_cwSW {own : String} {index maxL mc ms : Nat} {y : MethodName} {bytes : ByteArray} {ret : Option FieldType} {hh : List (Nat × Nat × Nat × Nat)} {Ts ws ws' : List Cond} {rm : Room} (n : Nat) (ht : ∀ w ∈ Ts, w.before args s = true) (hT : GoodIn Ts (va_wsS own index y ws)) (hw : ws = Cond.codeWith y bytes maxL ret hh :: ws') (hrc : rm.cells = mc) (hrs : rm.slots = ms)
    (hd : y.cls ≠ "java/lang/invoke/MethodHandle" ∧ y.cls ≠ "java/lang/invoke/VarHandle" ∧ (parseMethodDescriptor y.desc).map (fun d => d.parameters.length) = some n) (hR : rm.frames + 1 ≤ R.frames ∧ 8 + (maxL + 11) + rm.locals ≤ R.locals) :
    vx_CSW R s args own index y bytes maxL ret hh ws rm mc ms n := by
  have ok : ∀ w ∈ va_wsS own index y ws, w.before args s = true := fun w h => ht w (hT w h).1
  have hG : GoodIn Ts ws := fun w h => hT w (by unfold va_wsS; exact List.mem_append_right _ h)
  have hc : Cond.codeWith y bytes maxL ret hh ∈ ws := by rw [hw]; exact List.mem_cons_self
  refine ⟨⟨hrc, hrs, hR.1, hR.2, pay_in ht hG, hc⟩, ht _ (hG _ hc).1, ok _ (by simp [va_wsS]), ⟨hd.1, hd.2.1⟩, fun sig h => ?_, ok _ (by simp [va_wsS]), ok _ (by simp [va_wsS])⟩
  have h2 := hd.2.2
  rw [h] at h2
  exact (Option.some.inj h2).symm
theorem vx_callSW (X : Stand p l e R s m args below meth c T locs cells slots) (hexec : p.tables.exec = Jvm.exec) {own : String} {index : Nat} {y : MethodName} {bytes : ByteArray} {maxL : Nat} {ret : Option FieldType} {hh : List (Nat × Nat × Nat × Nat)}
    (hown : s.vm.findClass own = some m.cls) (hlink : (Cond.methodLink own index y).before args s = true) (hstat : (Cond.static y).before args s = true) (hinit : (Cond.initialized y.cls).before args s = true)
    (hcode : (Cond.codeWith y bytes maxL ret hh).before args s = true) (hy : y.cls ≠ "java/lang/invoke/MethodHandle" ∧ y.cls ≠ "java/lang/invoke/VarHandle")
    {W9 : Nat} {Pre : Pt → Array Value → Prop} {Post : Pt → Array Value → Option Value → Pt → Prop} (hK : Back l R p e below s args y 3 W9 Pre Post)
    {g : JFrame} (hg : g.method = m) (hsize : g.locals.size = c.maxLocals) {argsL rest : List Value} (hlen : ∀ sig, parseMethodDescriptor y.desc = some sig → argsL.length = sig.parameters.length)
    (hstack : g.stack = argsL.reverse ++ rest) (hW : 2 * g.monitorRoom + (rest.map fun v => v.category).sum ≤ W9) (hdg : decode c.code g.pc = .ok (.invokestatic index, 3))
    (hpre : ∀ vm₁, s.WarmedH vm₁ → Pre ⟨T.setVm vm₁, locs, cells, slots⟩ argsL.toArray) :
    ∃ (v : Option Value) (vm₁ : Vm) (B : Pt), s.WarmedH vm₁ ∧ Stand p l e R s m args below meth c B.U B.locs B.cells B.slots ∧ Post ⟨T.setVm vm₁, locs, cells, slots⟩ argsL.toArray v B ∧
      ∀ target, Steps p.tables e below (B.U.setTop { g with pc := g.pc + 3, stack := v.toList ++ rest }) target → Steps p.tables e below (T.setTop g) target := by
  obtain ⟨mk, methM, cM, hnamed, hmethM, -, -, -, -, -, -, hsigM⟩ := Cond.codeWith_spec hcode
  have hstatic : methM.isStatic = true := Cond.static_spec hnamed hmethM hstat
  obtain ⟨kP, hkP, -⟩ := className_of_methodNamed hnamed
  have hinitP : kP.init = .initialized := Cond.initialized_spec (findClass_of_methodNamed hnamed) hkP hinit
  obtain ⟨vm₁, X₁, hstep₁⟩ := X.invokestatic hexec hown hlink hnamed hmethM hstatic hkP hinitP hy (g := g) hg (argsL := argsL) (rest := rest) (hlen _ hsigM) hstack hdg
  obtain ⟨v, B, X', hpost, hsteps⟩ := hK m meth c ⟨T.setVm vm₁, locs, cells, slots⟩ { g with stack := rest } (.invokestatic index) mk argsL.toArray X₁ hg hsize hdg hW (X₁.named hnamed) (hpre vm₁ X₁.warmed)
  exact ⟨v, vm₁, B, X₁.warmed, X', hpost, fun target h => hstep₁ _ fun acts => by rw [doInvoke_state]; exact hsteps.trans h⟩
theorem vx_runSW {y : MethodName} {bytes cc : ByteArray} {maxL nL mc ms n index : Nat} {ret : Option FieldType} {hh : List (Nat × Nat × Nat × Nat)} {ws : List Cond} {rm : Room} {Pc : Array Value → State → Prop} {Qc : Array Value → State → Outcome → State → Prop} {free : Addr → Prop} {Ts : List Cond} {own : String} {As rest : List Value} {g : JFrame}
    (S : CallFix p m c cc nL s args Ts own) (hM : Met l y ws rm Pc Qc mc ms free) (cw : vx_CSW R s args own index y bytes maxL ret hh ws rm mc ms n) (hp : PreS s H Pc As)
    (hg : g.method = m) (hn : As.length = n) (hsize : g.locals.size = nL) (hstack : g.stack = As.reverse ++ rest) (hW : 2 * g.monitorRoom + (rest.map fun v => v.category).sum ≤ 8) (hdg : decode cc g.pc = .ok (.invokestatic index, 3)) (hf : cells + mc ≤ R.cells ∧ slots + ms ≤ R.slots) :
    va_Run p l e R s m args below meth c H locs cells slots mc ms g rest (Qc As.toArray) (free) := by
  obtain ⟨⟨hrc, hrs, hfr, hlo, hws, hcw⟩, hcode, hini, hy, hlen, hl, hstt⟩ := cw
  have hK : Back l R p e below s args y 3 8 (PreOf R mc ms Pc) (PostOf Qc mc ms free) := va_backW (hh := hh) (bytes := bytes) (maxL := maxL) (ret := ret) hM hp.1 hrc hrs hfr hlo hws hcw (fun a' U hW => word_at hW (Or.inl (by first | rfl | simp [Cond.onTables, Cond.keeps, Cond.steady])) hini)
  obtain ⟨hx, hb, hml, ho, -⟩ := S
  intro T hT X
  obtain ⟨v, vm₁, ⟨U', l2, c2, s2⟩, hW₁, X', ⟨g', mk, t, L, e1, e2, hq, h1, hL, h2, h3⟩, st⟩ := vx_callSW X hx (hh := hh) (bytes := bytes) (maxL := maxL) (ret := ret) ho hl hstt hini hcode hy hK hg (hsize.trans hml.symm) (argsL := As) (rest := rest) (fun sig h => hn.trans (hlen sig h)) hstack hW (by rw [hb]; exact hdg)
    (fun vm₁ hW₁ => ⟨hf.1, hf.2, hp.2 (T.setVm vm₁) hT hW₁⟩)
  dsimp only [Pt.U, Pt.locs, Pt.cells, Pt.slots] at X' e1 e2 h1 h2 h3 st
  subst h1; subst h2; subst h3
  exact ⟨v, (T.setVm vm₁).calling g' mk As.toArray, t, U', L, hT, X', hL, e1, e2, hq, st⟩
/-- not caught here, past rows that name other classes: it goes on to the caller -/
theorem vx_outP {p : Program} {l : Launch} {e : Env} {R : Room} {s : State} {m : MethodId} {args : Array Value} {below : List Frame} {meth : Method} {c : Code} {H : Heap} {locs : List Loc} {cells slots : Nat} {free : Addr → Prop} {ls : Array Slot} {rest : List Value} {Qc : Array Value → State → Outcome → State → Prop} {XC : String → State → State → Prop}
    {pc : Nat} {own E : String} {ce : Cell} {q : Addr} {mc ms : Nat} (hown : s.vm.findClass own = some m.cls) (hlocks : meth.locks = false)
    (hpass : ∀ z ∈ c.exceptionTable.toList, covers z pc = false ∨ (z.catchType ≠ 0 ∧ ∃ nm : String, (Cond.classLink own z.catchType nm).before args s = true ∧ va_Nc E nm s)) (hcell : H[q]? = some ce) (hv : ce.vm = .none) (hcl : s.vm.findClass E = some ce.cls)
    (hx : ∀ t : State, t.heap = H → s.vm.Alike t.vm → XC E s t) (hf : ∀ z ∈ locs, free z.base) (hc : cells ≤ mc) (hs : slots ≤ ms) :
    vx_W p l e R s m args below meth c H locs cells slots (vx_MQ below Qc XC args s mc ms free) (F0 m pc ls rest) q := by
  intro T hT X
  have hpl : e.platform.magicAccessors = ({} : Platform).magicAccessors := by rw [X.admits.platform]
  obtain ⟨vm', hW', X', st⟩ := X.outThrough hlocks q (g := F0 m pc ls rest) rfl rfl rfl (cell := ce) (by rw [hT]; exact hcell) (by rw [hv]; rfl)
    (by obtain ⟨k9, h9, -⟩ := Vm.findClass_spec hcl; exact ⟨k9, h9⟩) (fun z hz => by
      rcases hpass z hz with h | ⟨hz0, nm, hl1, hn1⟩
      · exact Or.inl h
      · obtain ⟨c6, hc6, hcl6⟩ := Cond.classLink_spec hown hl1 e.platform hpl
        obtain ⟨a8, b8, h1, h2, h3⟩ := hn1
        cases Option.some.inj (h1.symm.trans hcl)
        cases Option.some.inj (h2.symm.trans hc6)
        exact Or.inr ⟨hz0, _, hcl6, h3⟩)
  obtain ⟨g₀, hfr⟩ := X'.frames_eq
  have hcell9 : ((T.setVm vm').setFrames (.throwing q :: below)).heap[q]? = some ce := by
    show T.heap[q]? = some ce
    rw [hT]; exact hcell
  have hend : Ended ((T.setVm vm').setFrames (.throwing q :: below)) below (.threw q) := State.frames_setFrames _ (State.cur_lt_of_frames hfr)
  refine ⟨(T.setVm vm').setFrames (.throwing q :: below), ?_, .threw q, X'.here.running, hend, Or.inr ⟨q, rfl, E, ce, locs, hx _ hT (X'.ends _).1.alike, hcell9, hv, hcl, (X'.ends _).1, (X'.ends _).2.mono hc hs, hf⟩⟩
  rw [X.pushThrowing_eq]
  exact st
/-- a thing of a world lies in the heap -/
theorem vx_lt {D : va_G} {cl : List vw_C} {ws : va_W} {H1 : Heap} (h : va_P D cl ws H1) {k : Nat} {q : Nat × va_E} (hk : ws[k]? = some q) : q.1 < H1.size := (h k q hk).lt
end VXS
/-! ===== END ===== -/
/-! ===== BEGIN methods with a table of their own: called by a name, returning or throwing ===== -/
section VXH
/-! vx_backW, vx_callVX, vx_callSX, vx_callVW, vx_runVW, vx_runVX, vx_runSX, vx_ofWH follow the same proofs as their sisters above (Free/Laws.lean, Shelf42/LK1.lean); vx_outP calls Shelf42/NT130.lean (outThrough). -/
section
variable {l : Launch} {R : Room} {p : Program} {e : Env} {below : List Frame} {s : State} {sargs : Array Value} {y : MethodName} {len W9 : Nat}
theorem vx_backW {ws : List Cond} {rm : Room} {Pc : Array Value → State → Prop} {Qc : Array Value → State → Outcome → State → Prop} {XC : String → State → State → Prop} {mc ms : Nat} {free : Addr → Prop} {bytes : ByteArray} {maxL : Nat} {ret : Option FieldType} {hh : List (Nat × Nat × Nat × Nat)}
    (hM : vx_Met l y ws rm Pc Qc XC mc ms free) (hblind : FrameBlind Pc) (hrc : rm.cells = mc) (hrs : rm.slots = ms)
    (hframes : rm.frames + 1 ≤ R.frames) (hlocals : W9 + (maxL + 11) + rm.locals ≤ R.locals)
    (hws : ∀ w ∈ ws, ∀ a' U, s.WarmedH U.vm → w.before a' U = true) (hcode : Cond.codeWith y bytes maxL ret hh ∈ ws) (hinit : ∀ a' U, s.WarmedH U.vm → (Cond.initialized y.cls).before a' U = true) :
    vx_Back l R p e below s sargs y len W9 (PreOf R mc ms Pc) (PostOf Qc mc ms free) (vx_Post XC mc ms free) := by
  intro m meth c A g ig mk a X hg hsize hdg hW hn hp
  have h1 : (headSpec ws rm).pre.before a A.U = true := atoms_intro fun w hw => hws w hw _ _ X.warmed
  have h2 : (Cond.codeWith y bytes maxL ret hh).before a A.U = true := hws _ hcode _ _ X.warmed
  have h3 : (Cond.initialized y.cls).before a A.U = true := hinit _ _ X.warmed
  have h4 : A.cells + (headSpec ws rm).room.cells ≤ R.cells := by rw [show (headSpec ws rm).room.cells = mc from hrc]; exact hp.1
  have h5 : A.slots + (headSpec ws rm).room.slots ≤ R.slots := by rw [show (headSpec ws rm).room.slots = ms from hrs]; exact hp.2.1
  have hPc : Pc a (A.U.calling g mk a) := hblind _ _ _ _ hp.2.2
  obtain ⟨U, Ls, c0, s0⟩ := A
  dsimp only [Pt.U, Pt.locs, Pt.cells, Pt.slots] at h1 h2 h3 h4 h5 X hn hPc ⊢
  obtain ⟨m9, methY, cY, hn9, hmY, hcY, -, hlY, -⟩ := Cond.codeWith_spec h2
  cases Option.some.inj (hn9.symm.trans hn)
  obtain ⟨kY, hkY, -⟩ := className_of_methodNamed hn
  have hinitY : kY.init = .initialized := Cond.initialized_spec (findClass_of_methodNamed hn) hkY h3
  have h : At U g.method c below := by rw [hg]; exact X.here
  have hlocals9 : W9 + (maxL + 11) + (headSpec ws rm).room.locals ≤ R.locals := hlocals
  have happ : (headSpec ws rm).appliesLoose y e.platform (U.calling g mk a) = true :=
    Spec.appliesLoose_calling (g := g) h hdg hn hkY hinitY
      (X.room_calling (g := g) (R' := (headSpec ws rm).room) hsize hmY hcY hframes (by rw [hlY]; omega) h4 h5) h1
  obtain ⟨mid, hmid⟩ := h.above
  have hfr : (U.setTop g).frames = (.java g :: mid) ++ below := by rw [State.frames_setTop' g h.top, hmid]; rfl
  obtain ⟨o, s₂, hsteps, -, hend, hq⟩ := Steps.callFree hM p X.admits X.cas X.clock (acts := []) hfr happ hPc trivial
  have hq' : vx_Q Qc XC mc ms free a (U.calling g mk a) o s₂ := hq
  rw [State.frames_setTop' g h.top] at hend
  obtain ⟨g₀, hg0⟩ := Option.isSome_iff_exists.mp h.top
  obtain ⟨r, hr⟩ := State.topJava?_eq_some.mp hg0
  have hr' : (({ U with heap := s₂.heap, slotsUsed := s₂.slotsUsed } : State).setVm s₂.vm).frames = .java g₀ :: r := hr
  rcases hq' with ⟨hqc, L, hfe, hL⟩ | ⟨q, rfl, E, ce, L, hx, hce, hcv, hcl, hW₂, hsm, hL⟩
  · obtain ⟨⟨v, rfl⟩, hW₂, e2, q2, q3, q4, q5, q6⟩ := id hfe
    have e3 : s₂ = ({ (U.calling g mk a).setFrames s₂.frames with heap := s₂.heap, slotsUsed := s₂.slotsUsed } : State).setVm s₂.vm := by
      have : s₂ = ({ s₂ with vm := (U.calling g mk a).vm } : State).setVm s₂.vm := rfl
      rw [e2] at this
      exact this
    obtain ⟨c₂, i₂, len₂, hc₂, hd₂, hf₂⟩ := hend
    have hW' : U.WarmedH s₂.vm := hW₂
    have hcc : c₂ = c := by
      have h1 : s₂.code? g.method = U.code? g.method := by
        rw [State.code?_eq, State.code?_eq, hW'.alike.method?]
      exact Option.some.inj (hc₂.symm.trans (h1.trans h.code))
    subst hcc
    have hlen : len₂ = len := by rw [hdg] at hd₂; cases hd₂; rfl
    subst hlen
    have hs₂ : s₂ = (({ U with heap := s₂.heap, slotsUsed := s₂.slotsUsed } : State).setVm s₂.vm).setTop { g with pc := g.pc + len₂, stack := v.toList ++ g.stack } := by
      refine e3.trans ?_
      rw [hf₂, State.calling_eq h.top, State.setFrames_setFrames, State.setTop_of_frames _ hr', hr]
      rfl
    have hsame : U.sameButNew ({ U with heap := s₂.heap, slotsUsed := s₂.slotsUsed } : State) L mc ms := by
      refine ⟨?_, q2, q3, q4, q5, q6⟩
      obtain ⟨t, ht, -⟩ := State.frames_cons hr
      show ({ U with heap := s₂.heap, slotsUsed := s₂.slotsUsed } : State) = { U.setFrames U.frames with heap := s₂.heap, slotsUsed := s₂.slotsUsed }
      rw [State.setFrames_self ht]
    subst hg
    refine Or.inl ⟨v, ⟨(({ U with heap := s₂.heap, slotsUsed := s₂.slotsUsed } : State).setVm s₂.vm), Ls ++ L, c0 + mc, s0 + ms⟩,
      ⟨X.admits, X.cas, X.clock, X.frames, X.room, X.hears, X.method, X.code, (X.here.setHeapUsed s₂.heap s₂.slotsUsed).setVm hW'.alike, X.tail, State.WarmedH.trans X.warmed hW', X.limits, X.bytes, X.same.trans (hsame.setVm s.vm)⟩,
      ⟨g, mk, s₂, L, rfl, rfl, hqc, rfl, hL, rfl, rfl⟩, ?_⟩
    show Steps p.tables e below _ ((({ U with heap := s₂.heap, slotsUsed := s₂.slotsUsed } : State).setVm s₂.vm).setTop { g with pc := g.pc + len₂, stack := v.toList ++ g.stack })
    rw [← hs₂]
    exact hsteps
  · obtain ⟨e2, q2, q3, q4, q5, q6⟩ := id hsm
    have e3 : s₂ = ({ (U.calling g mk a).setFrames s₂.frames with heap := s₂.heap, slotsUsed := s₂.slotsUsed } : State).setVm s₂.vm := by
      have : s₂ = ({ s₂ with vm := (U.calling g mk a).vm } : State).setVm s₂.vm := rfl
      rw [e2] at this
      exact this
    have hf₂ : s₂.frames = .throwing q :: .java g :: U.frames.tail := hend
    have hW' : U.WarmedH s₂.vm := hW₂
    have hs₂ : s₂ = ((({ U with heap := s₂.heap, slotsUsed := s₂.slotsUsed } : State).setVm s₂.vm).setTop g).pushFrame (.throwing q) := by
      refine e3.trans ?_
      rw [hf₂, State.calling_eq h.top, State.setFrames_setFrames, State.pushFrame, State.frames_setTop _ hr', State.setTop_of_frames _ hr', State.setFrames_setFrames, hr]
      rfl
    have hsame : U.sameButNew ({ U with heap := s₂.heap, slotsUsed := s₂.slotsUsed } : State) L mc ms := by
      refine ⟨?_, q2, q3, q4, q5, q6⟩
      obtain ⟨t, ht, -⟩ := State.frames_cons hr
      show ({ U with heap := s₂.heap, slotsUsed := s₂.slotsUsed } : State) = { U.setFrames U.frames with heap := s₂.heap, slotsUsed := s₂.slotsUsed }
      rw [State.setFrames_self ht]
    subst hg
    refine Or.inr ⟨q, ⟨(({ U with heap := s₂.heap, slotsUsed := s₂.slotsUsed } : State).setVm s₂.vm), Ls ++ L, c0 + mc, s0 + ms⟩,
      ⟨X.admits, X.cas, X.clock, X.frames, X.room, X.hears, X.method, X.code, (X.here.setHeapUsed s₂.heap s₂.slotsUsed).setVm hW'.alike, X.tail, State.WarmedH.trans X.warmed hW', X.limits, X.bytes, X.same.trans (hsame.setVm s.vm)⟩,
      ⟨g, mk, s₂, L, E, ce, rfl, rfl, hx, hce, hcv, hcl, rfl, hL, rfl, rfl⟩, ?_⟩
    show Steps p.tables e below _ (((({ U with heap := s₂.heap, slotsUsed := s₂.slotsUsed } : State).setVm s₂.vm).setTop g).pushFrame (.throwing q))
    rw [← hs₂]
    exact hsteps
end
variable {p : Program} {l : Launch} {e : Env} {R : Room} {s : State} {m : MethodId} {args : Array Value} {below : List Frame} {meth : Method} {c : Code} {T : State} {H : Heap} {locs : List Loc} {cells slots : Nat}
theorem vx_callVX (X : Stand p l e R s m args below meth c T locs cells slots) (hexec : p.tables.exec = Jvm.exec) {own C : String} {index : Nat} {y : MethodName} {bytes : ByteArray} {maxL : Nat} {ret : Option FieldType} {hh : List (Nat × Nat × Nat × Nat)}
    (hown : s.vm.findClass own = some m.cls) (hlink : (Cond.methodLink own index y).before args s = true) (hinst : (Cond.instanceMethod y).before args s = true) (hsel : (Cond.selects C y y).before args s = true)
    (hcode : (Cond.codeWith y bytes maxL ret hh).before args s = true) (hy : y.cls ≠ "java/lang/invoke/MethodHandle" ∧ y.cls ≠ "java/lang/invoke/VarHandle")
    {W9 : Nat} {Pre : Pt → Array Value → Prop} {Post : Pt → Array Value → Option Value → Pt → Prop} {PostX : Pt → Array Value → Addr → Pt → Prop} (hK : vx_Back l R p e below s args y 3 W9 Pre Post PostX)
    {b : Addr} {cellB : Cell} (hcell : T.heap[b]? = some cellB) (hobj : cellB.vm.isStatics = false) (hcls : s.vm.findClass C = some cellB.cls)
    {g : JFrame} (hg : g.method = m) (hsize : g.locals.size = c.maxLocals) {argsL rest : List Value} (hlen : ∀ sig, parseMethodDescriptor y.desc = some sig → argsL.length = sig.parameters.length)
    (hstack : g.stack = argsL.reverse ++ .ref b :: rest) (hW : 2 * g.monitorRoom + (rest.map fun v => v.category).sum ≤ W9) (hdg : decode c.code g.pc = .ok (.invokevirtual index, 3))
    (hpre : ∀ vm₁, s.WarmedH vm₁ → Pre ⟨T.setVm vm₁, locs, cells, slots⟩ (Value.ref b :: argsL).toArray) :
    (∃ (v : Option Value) (vm₁ : Vm) (B : Pt), s.WarmedH vm₁ ∧ Stand p l e R s m args below meth c B.U B.locs B.cells B.slots ∧ Post ⟨T.setVm vm₁, locs, cells, slots⟩ (Value.ref b :: argsL).toArray v B ∧
      ∀ target, Steps p.tables e below (B.U.setTop { g with pc := g.pc + 3, stack := v.toList ++ rest }) target → Steps p.tables e below (T.setTop g) target) ∨
    (∃ (q : Addr) (vm₁ : Vm) (B : Pt), s.WarmedH vm₁ ∧ Stand p l e R s m args below meth c B.U B.locs B.cells B.slots ∧ PostX ⟨T.setVm vm₁, locs, cells, slots⟩ (Value.ref b :: argsL).toArray q B ∧
      Steps p.tables e below (T.setTop g) ((B.U.setTop { g with stack := rest }).pushFrame (.throwing q))) := by
  obtain ⟨mk, methM, hnamed, hmethM, hstM, habM⟩ := Cond.instanceMethod_spec hinst
  obtain ⟨m8, methM', cM, hn8, hmethM', -, -, -, -, -, -, hsigM⟩ := Cond.codeWith_spec hcode
  cases Option.some.inj (hn8.symm.trans hnamed)
  cases hmethM.symm.trans hmethM'
  obtain ⟨c2, r2, m2, q1, q2, q3, q4, kP, hkP, hkPi⟩ := Cond.selects_spec hsel
  cases hcls.symm.trans q1
  cases (State.methodFound?_of_named hnamed hy).symm.trans q2
  cases hnamed.symm.trans q3
  have hselP : selectMethod e.platform s.vm cellB.cls mk = .method mk := by rw [Launch.admits_selectMethod X.admits]; exact q4
  obtain ⟨vm₁, X₁, hstep₁⟩ := X.invokevirtual hexec hown hlink hnamed hmethM hstM hkP hkPi hy (a := b) (cell := cellB) hcell
    (fun z h => by rw [h] at hobj; cases hobj) hselP hmethM habM hkP hkPi (g := g) hg (argsL := argsL) (rest := rest) (hlen _ hsigM) hstack hdg
  rcases hK m meth c ⟨T.setVm vm₁, locs, cells, slots⟩ { g with stack := rest } (.invokevirtual index) mk (Value.ref b :: argsL).toArray X₁ hg hsize hdg hW (X₁.named hnamed) (hpre vm₁ X₁.warmed) with ⟨v, B, X', hpost, hsteps⟩ | ⟨q, B, X', hpost, hsteps⟩
  · exact Or.inl ⟨v, vm₁, B, X₁.warmed, X', hpost, fun target h => hstep₁ _ fun acts => by rw [doInvoke_state]; exact hsteps.trans h⟩
  · exact Or.inr ⟨q, vm₁, B, X₁.warmed, X', hpost, hstep₁ _ fun acts => by rw [doInvoke_state]; exact hsteps⟩
theorem vx_callSX (X : Stand p l e R s m args below meth c T locs cells slots) (hexec : p.tables.exec = Jvm.exec) {own : String} {index : Nat} {y : MethodName} {bytes : ByteArray} {maxL : Nat} {ret : Option FieldType} {hh : List (Nat × Nat × Nat × Nat)}
    (hown : s.vm.findClass own = some m.cls) (hlink : (Cond.methodLink own index y).before args s = true) (hstat : (Cond.static y).before args s = true) (hinit : (Cond.initialized y.cls).before args s = true)
    (hcode : (Cond.codeWith y bytes maxL ret hh).before args s = true) (hy : y.cls ≠ "java/lang/invoke/MethodHandle" ∧ y.cls ≠ "java/lang/invoke/VarHandle")
    {W9 : Nat} {Pre : Pt → Array Value → Prop} {Post : Pt → Array Value → Option Value → Pt → Prop} {PostX : Pt → Array Value → Addr → Pt → Prop} (hK : vx_Back l R p e below s args y 3 W9 Pre Post PostX)
    {g : JFrame} (hg : g.method = m) (hsize : g.locals.size = c.maxLocals) {argsL rest : List Value} (hlen : ∀ sig, parseMethodDescriptor y.desc = some sig → argsL.length = sig.parameters.length)
    (hstack : g.stack = argsL.reverse ++ rest) (hW : 2 * g.monitorRoom + (rest.map fun v => v.category).sum ≤ W9) (hdg : decode c.code g.pc = .ok (.invokestatic index, 3))
    (hpre : ∀ vm₁, s.WarmedH vm₁ → Pre ⟨T.setVm vm₁, locs, cells, slots⟩ argsL.toArray) :
    (∃ (v : Option Value) (vm₁ : Vm) (B : Pt), s.WarmedH vm₁ ∧ Stand p l e R s m args below meth c B.U B.locs B.cells B.slots ∧ Post ⟨T.setVm vm₁, locs, cells, slots⟩ argsL.toArray v B ∧
      ∀ target, Steps p.tables e below (B.U.setTop { g with pc := g.pc + 3, stack := v.toList ++ rest }) target → Steps p.tables e below (T.setTop g) target) ∨
    (∃ (q : Addr) (vm₁ : Vm) (B : Pt), s.WarmedH vm₁ ∧ Stand p l e R s m args below meth c B.U B.locs B.cells B.slots ∧ PostX ⟨T.setVm vm₁, locs, cells, slots⟩ argsL.toArray q B ∧
      Steps p.tables e below (T.setTop g) ((B.U.setTop { g with stack := rest }).pushFrame (.throwing q))) := by
  obtain ⟨mk, methM, cM, hnamed, hmethM, -, -, -, -, -, -, hsigM⟩ := Cond.codeWith_spec hcode
  have hstatic : methM.isStatic = true := Cond.static_spec hnamed hmethM hstat
  obtain ⟨kP, hkP, -⟩ := className_of_methodNamed hnamed
  have hinitP : kP.init = .initialized := Cond.initialized_spec (findClass_of_methodNamed hnamed) hkP hinit
  obtain ⟨vm₁, X₁, hstep₁⟩ := X.invokestatic hexec hown hlink hnamed hmethM hstatic hkP hinitP hy (g := g) hg (argsL := argsL) (rest := rest) (hlen _ hsigM) hstack hdg
  rcases hK m meth c ⟨T.setVm vm₁, locs, cells, slots⟩ { g with stack := rest } (.invokestatic index) mk argsL.toArray X₁ hg hsize hdg hW (X₁.named hnamed) (hpre vm₁ X₁.warmed) with ⟨v, B, X', hpost, hsteps⟩ | ⟨q, B, X', hpost, hsteps⟩
  · exact Or.inl ⟨v, vm₁, B, X₁.warmed, X', hpost, fun target h => hstep₁ _ fun acts => by rw [doInvoke_state]; exact hsteps.trans h⟩
  · exact Or.inr ⟨q, vm₁, B, X₁.warmed, X', hpost, hstep₁ _ fun acts => by rw [doInvoke_state]; exact hsteps⟩
theorem vx_callVW (X : Stand p l e R s m args below meth c T locs cells slots) (hexec : p.tables.exec = Jvm.exec) {own C : String} {index : Nat} {y : MethodName} {bytes : ByteArray} {maxL : Nat} {ret : Option FieldType} {hh : List (Nat × Nat × Nat × Nat)}
    (hown : s.vm.findClass own = some m.cls) (hlink : (Cond.methodLink own index y).before args s = true) (hinst : (Cond.instanceMethod y).before args s = true) (hsel : (Cond.selects C y y).before args s = true)
    (hcode : (Cond.codeWith y bytes maxL ret hh).before args s = true) (hy : y.cls ≠ "java/lang/invoke/MethodHandle" ∧ y.cls ≠ "java/lang/invoke/VarHandle")
    {W9 : Nat} {Pre : Pt → Array Value → Prop} {Post : Pt → Array Value → Option Value → Pt → Prop} (hK : Back l R p e below s args y 3 W9 Pre Post)
    {b : Addr} {cellB : Cell} (hcell : T.heap[b]? = some cellB) (hobj : cellB.vm.isStatics = false) (hcls : s.vm.findClass C = some cellB.cls)
    {g : JFrame} (hg : g.method = m) (hsize : g.locals.size = c.maxLocals) {argsL rest : List Value} (hlen : ∀ sig, parseMethodDescriptor y.desc = some sig → argsL.length = sig.parameters.length)
    (hstack : g.stack = argsL.reverse ++ .ref b :: rest) (hW : 2 * g.monitorRoom + (rest.map fun v => v.category).sum ≤ W9) (hdg : decode c.code g.pc = .ok (.invokevirtual index, 3))
    (hpre : ∀ vm₁, s.WarmedH vm₁ → Pre ⟨T.setVm vm₁, locs, cells, slots⟩ (Value.ref b :: argsL).toArray) :
    ∃ (v : Option Value) (vm₁ : Vm) (B : Pt), s.WarmedH vm₁ ∧ Stand p l e R s m args below meth c B.U B.locs B.cells B.slots ∧ Post ⟨T.setVm vm₁, locs, cells, slots⟩ (Value.ref b :: argsL).toArray v B ∧
      ∀ target, Steps p.tables e below (B.U.setTop { g with pc := g.pc + 3, stack := v.toList ++ rest }) target → Steps p.tables e below (T.setTop g) target := by
  obtain ⟨mk, methM, hnamed, hmethM, hstM, habM⟩ := Cond.instanceMethod_spec hinst
  obtain ⟨m8, methM', cM, hn8, hmethM', -, -, -, -, -, -, hsigM⟩ := Cond.codeWith_spec hcode
  cases Option.some.inj (hn8.symm.trans hnamed)
  cases hmethM.symm.trans hmethM'
  obtain ⟨c2, r2, m2, q1, q2, q3, q4, kP, hkP, hkPi⟩ := Cond.selects_spec hsel
  cases hcls.symm.trans q1
  cases (State.methodFound?_of_named hnamed hy).symm.trans q2
  cases hnamed.symm.trans q3
  have hselP : selectMethod e.platform s.vm cellB.cls mk = .method mk := by rw [Launch.admits_selectMethod X.admits]; exact q4
  obtain ⟨vm₁, X₁, hstep₁⟩ := X.invokevirtual hexec hown hlink hnamed hmethM hstM hkP hkPi hy (a := b) (cell := cellB) hcell
    (fun z h => by rw [h] at hobj; cases hobj) hselP hmethM habM hkP hkPi (g := g) hg (argsL := argsL) (rest := rest) (hlen _ hsigM) hstack hdg
  obtain ⟨v, B, X', hpost, hsteps⟩ := hK m meth c ⟨T.setVm vm₁, locs, cells, slots⟩ { g with stack := rest } (.invokevirtual index) mk (Value.ref b :: argsL).toArray X₁ hg hsize hdg hW (X₁.named hnamed) (hpre vm₁ X₁.warmed)
  exact ⟨v, vm₁, B, X₁.warmed, X', hpost, fun target h => hstep₁ _ fun acts => by rw [doInvoke_state]; exact hsteps.trans h⟩
abbrev vx_CVW (R : Room) (s : State) (args : Array Value) (own C : String) (index : Nat) (y : MethodName) (bytes : ByteArray) (maxL : Nat) (ret : Option FieldType) (hh : List (Nat × Nat × Nat × Nat)) (ws : List Cond) (rm : Room) (mc ms n : Nat) : Prop :=
  (rm.cells = mc ∧ rm.slots = ms ∧ rm.frames + 1 ≤ R.frames ∧ 8 + (maxL + 11) + rm.locals ≤ R.locals ∧ (∀ w ∈ ws, ∀ (a' : Array Value) (U : State), s.WarmedH U.vm → w.before a' U = true) ∧ Cond.codeWith y bytes maxL ret hh ∈ ws) ∧
  (Cond.codeWith y bytes maxL ret hh).before args s = true ∧ (Cond.initialized y.cls).before args s = true ∧ (y.cls ≠ "java/lang/invoke/MethodHandle" ∧ y.cls ≠ "java/lang/invoke/VarHandle") ∧
  (∀ sig, parseMethodDescriptor y.desc = some sig → n = sig.parameters.length) ∧ (Cond.methodLink own index y).before args s = true ∧ (Cond.instanceMethod y).before args s = true ∧ (Cond.selects C y y).before args s = true
theorem vx_cwVW {own C : String} {index maxL mc ms : Nat} {y : MethodName} {bytes : ByteArray} {ret : Option FieldType} {hh : List (Nat × Nat × Nat × Nat)} {Ts ws ws' : List Cond} {rm : Room} (n : Nat) (ht : ∀ w ∈ Ts, w.before args s = true) (hT : GoodIn Ts (wsV own index C y ws)) (hw : ws = Cond.codeWith y bytes maxL ret hh :: ws') (hrc : rm.cells = mc) (hrs : rm.slots = ms)
    (hd : y.cls = C ∧ y.cls ≠ "java/lang/invoke/MethodHandle" ∧ y.cls ≠ "java/lang/invoke/VarHandle" ∧ (parseMethodDescriptor y.desc).map (fun d => d.parameters.length) = some n) (hR : rm.frames + 1 ≤ R.frames ∧ 8 + (maxL + 11) + rm.locals ≤ R.locals) :
    vx_CVW R s args own C index y bytes maxL ret hh ws rm mc ms n := by
  obtain ⟨hC, hd⟩ := hd
  subst hC
  have ok : ∀ w ∈ wsV own index y.cls y ws, w.before args s = true := fun w h => ht w (hT w h).1
  have hG : GoodIn Ts ws := fun w h => hT w (by unfold wsV; exact List.mem_append_right _ h)
  have hc : Cond.codeWith y bytes maxL ret hh ∈ ws := by rw [hw]; exact List.mem_cons_self
  refine ⟨⟨hrc, hrs, hR.1, hR.2, pay_in ht hG, hc⟩, ht _ (hG _ hc).1, ok _ (by simp [wsV]), ⟨hd.1, hd.2.1⟩, fun sig h => ?_, ok _ (by simp [wsV]), ok _ (by simp [wsV]), ok _ (by simp [wsV])⟩
  have h2 := hd.2.2
  rw [h] at h2
  exact (Option.some.inj h2).symm
theorem vx_runVW {y : MethodName} {bytes cc : ByteArray} {maxL nL mc ms n index : Nat} {ret : Option FieldType} {hh : List (Nat × Nat × Nat × Nat)} {ws : List Cond} {rm : Room} {Pc : Array Value → State → Prop} {Qc : Array Value → State → Outcome → State → Prop} {free : Addr → Prop} {Ts : List Cond} {own C : String} {b : Addr} {As rest : List Value} {g : JFrame}
    (S : CallFix p m c cc nL s args Ts own) (hM : Met l y ws rm Pc Qc mc ms free) (cw : vx_CVW R s args own C index y bytes maxL ret hh ws rm mc ms n) (hp : PreV s H C b Pc As)
    (hg : g.method = m) (hn : As.length = n) (hsize : g.locals.size = nL) (hstack : g.stack = As.reverse ++ .ref b :: rest) (hW : 2 * g.monitorRoom + (rest.map fun v => v.category).sum ≤ 8) (hdg : decode cc g.pc = .ok (.invokevirtual index, 3)) (hf : cells + mc ≤ R.cells ∧ slots + ms ≤ R.slots) :
    va_Run p l e R s m args below meth c H locs cells slots mc ms g rest (Qc (Value.ref b :: As).toArray) free := by
  obtain ⟨⟨hrc, hrs, hfr, hlo, hws, hcw⟩, hcode, hini, hy, hlen, hl, hin, hse⟩ := cw
  have hK : Back l R p e below s args y 3 8 (PreOf R mc ms Pc) (PostOf Qc mc ms free) := va_backW (hh := hh) (bytes := bytes) (maxL := maxL) (ret := ret) hM hp.1 hrc hrs hfr hlo hws hcw (fun a' U hW => word_at hW (Or.inl (by first | rfl | simp [Cond.onTables, Cond.keeps, Cond.steady])) hini)
  obtain ⟨hx, hb, hml, ho, -⟩ := S
  obtain ⟨-, ⟨cellB, hcB, hoB, hclB⟩, hPc⟩ := hp
  intro T hT X
  obtain ⟨v, vm₁, ⟨U', l2, c2, s2⟩, hW₁, X', ⟨g', mk, t, L, e1, e2, hq, h1, hL, h2, h3⟩, st⟩ := vx_callVW X hx (C := C) (hh := hh) (bytes := bytes) (maxL := maxL) (ret := ret) ho hl hin hse hcode hy hK (by rw [hT]; exact hcB) hoB hclB hg (hsize.trans hml.symm) (argsL := As) (rest := rest) (fun sig h => hn.trans (hlen sig h)) hstack hW (by rw [hb]; exact hdg)
    (fun vm₁ hW₁ => ⟨hf.1, hf.2, hPc (T.setVm vm₁) hT hW₁⟩)
  dsimp only [Pt.U, Pt.locs, Pt.cells, Pt.slots] at X' e1 e2 h1 h2 h3 st
  subst h1; subst h2; subst h3
  exact ⟨v, (T.setVm vm₁).calling g' mk (Value.ref b :: As).toArray, t, U', L, hT, X', hL, e1, e2, hq, st⟩
section
variable {y : MethodName} {bytes cc : ByteArray} {maxL nL mc ms n index : Nat} {ret : Option FieldType} {ws : List Cond} {rm : Room} {Pc : Array Value → State → Prop} {Qc : Array Value → State → Outcome → State → Prop} {XC : String → State → State → Prop} {free : Addr → Prop} {Ts : List Cond} {own C : String} {b : Addr} {As rest : List Value} {g : JFrame}
theorem vx_runVX {hh : List (Nat × Nat × Nat × Nat)} (S : CallFix p m c cc nL s args Ts own) (hM : vx_Met l y ws rm Pc Qc XC mc ms free) (cw : vx_CVW R s args own C index y bytes maxL ret hh ws rm mc ms n) (hp : PreV s H C b Pc As)
    (hg : g.method = m) (hn : As.length = n) (hsize : g.locals.size = nL) (hstack : g.stack = As.reverse ++ .ref b :: rest) (hW : 2 * g.monitorRoom + (rest.map fun v => v.category).sum ≤ 8) (hdg : decode cc g.pc = .ok (.invokevirtual index, 3)) (hf : cells + mc ≤ R.cells ∧ slots + ms ≤ R.slots) :
    vx_Run p l e R s m args below meth c H locs cells slots mc ms g rest (Qc (Value.ref b :: As).toArray) XC free := by
  obtain ⟨⟨hrc, hrs, hfr, hlo, hws, hcw⟩, hcode, hini, hy, hlen, hl, hin, hse⟩ := cw
  have hK : vx_Back l R p e below s args y 3 8 (PreOf R mc ms Pc) (PostOf Qc mc ms free) (vx_Post XC mc ms free) := vx_backW (hh := hh) (bytes := bytes) (maxL := maxL) (ret := ret) hM hp.1 hrc hrs hfr hlo hws hcw (fun a' U hW => word_at hW (Or.inl (by first | rfl | simp [Cond.onTables, Cond.keeps, Cond.steady])) hini)
  obtain ⟨hx, hb, hml, ho, -⟩ := S
  obtain ⟨-, ⟨cellB, hcB, hoB, hclB⟩, hPc⟩ := hp
  intro T hT X
  rcases vx_callVX X hx (C := C) (hh := hh) (bytes := bytes) (maxL := maxL) (ret := ret) ho hl hin hse hcode hy hK (by rw [hT]; exact hcB) hoB hclB hg (hsize.trans hml.symm) (argsL := As) (rest := rest) (fun sig h => hn.trans (hlen sig h)) hstack hW (by rw [hb]; exact hdg)
    (fun vm₁ hW₁ => ⟨hf.1, hf.2, hPc (T.setVm vm₁) hT hW₁⟩) with ⟨v, vm₁, ⟨U', l2, c2, s2⟩, hW₁, X', ⟨g', mk, t, L, e1, e2, hq, h1, hL, h2, h3⟩, st⟩ | ⟨q, vm₁, ⟨U', l2, c2, s2⟩, hW₁, X', ⟨g', mk, t, L, E, ce, e1, e2, hq, hce, hcv, hcl, h1, hL, h2, h3⟩, st⟩
  · dsimp only [Pt.U, Pt.locs, Pt.cells, Pt.slots] at X' e1 e2 h1 h2 h3 st
    subst h1; subst h2; subst h3
    exact Or.inl ⟨v, (T.setVm vm₁).calling g' mk (Value.ref b :: As).toArray, t, U', L, hT, X', hL, e1, e2, hq, st⟩
  · dsimp only [Pt.U, Pt.locs, Pt.cells, Pt.slots] at X' e1 e2 h1 h2 h3 st hcl
    subst h1; subst h2; subst h3
    exact Or.inr ⟨q, (T.setVm vm₁).calling g' mk (Value.ref b :: As).toArray, t, U', L, E, ce, hT, X', hL, e1, e2, hq, hce, hcv, vx_cls hW₁ hcl, st⟩
theorem vx_runSX {hh : List (Nat × Nat × Nat × Nat)} (S : CallFix p m c cc nL s args Ts own) (hM : vx_Met l y ws rm Pc Qc XC mc ms free) (cw : vx_CSW R s args own index y bytes maxL ret hh ws rm mc ms n) (hp : PreS s H Pc As)
    (hg : g.method = m) (hn : As.length = n) (hsize : g.locals.size = nL) (hstack : g.stack = As.reverse ++ rest) (hW : 2 * g.monitorRoom + (rest.map fun v => v.category).sum ≤ 8) (hdg : decode cc g.pc = .ok (.invokestatic index, 3)) (hf : cells + mc ≤ R.cells ∧ slots + ms ≤ R.slots) :
    vx_Run p l e R s m args below meth c H locs cells slots mc ms g rest (Qc As.toArray) XC free := by
  obtain ⟨⟨hrc, hrs, hfr, hlo, hws, hcw⟩, hcode, hini, hy, hlen, hl, hstt⟩ := cw
  have hK : vx_Back l R p e below s args y 3 8 (PreOf R mc ms Pc) (PostOf Qc mc ms free) (vx_Post XC mc ms free) := vx_backW (hh := hh) (bytes := bytes) (maxL := maxL) (ret := ret) hM hp.1 hrc hrs hfr hlo hws hcw (fun a' U hW => word_at hW (Or.inl (by first | rfl | simp [Cond.onTables, Cond.keeps, Cond.steady])) hini)
  obtain ⟨hx, hb, hml, ho, -⟩ := S
  intro T hT X
  rcases vx_callSX X hx (hh := hh) (bytes := bytes) (maxL := maxL) (ret := ret) ho hl hstt hini hcode hy hK hg (hsize.trans hml.symm) (argsL := As) (rest := rest) (fun sig h => hn.trans (hlen sig h)) hstack hW (by rw [hb]; exact hdg)
    (fun vm₁ hW₁ => ⟨hf.1, hf.2, hp.2 (T.setVm vm₁) hT hW₁⟩) with ⟨v, vm₁, ⟨U', l2, c2, s2⟩, hW₁, X', ⟨g', mk, t, L, e1, e2, hq, h1, hL, h2, h3⟩, st⟩ | ⟨q, vm₁, ⟨U', l2, c2, s2⟩, hW₁, X', ⟨g', mk, t, L, E, ce, e1, e2, hq, hce, hcv, hcl, h1, hL, h2, h3⟩, st⟩
  · dsimp only [Pt.U, Pt.locs, Pt.cells, Pt.slots] at X' e1 e2 h1 h2 h3 st
    subst h1; subst h2; subst h3
    exact Or.inl ⟨v, (T.setVm vm₁).calling g' mk As.toArray, t, U', L, hT, X', hL, e1, e2, hq, st⟩
  · dsimp only [Pt.U, Pt.locs, Pt.cells, Pt.slots] at X' e1 e2 h1 h2 h3 st hcl
    subst h1; subst h2; subst h3
    exact Or.inr ⟨q, (T.setVm vm₁).calling g' mk As.toArray, t, U', L, E, ce, hT, X', hL, e1, e2, hq, hce, hcv, vx_cls hW₁ hcl, st⟩
end
end VXH
theorem vx_ofWH {l : Launch} {y : MethodName} {ws ws' : List Cond} {rm : Room} {Pc : Array Value → State → Prop} {Qc : Array Value → State → Outcome → State → Prop} {XC : String → State → State → Prop} {mc ms : Nat} {free : Addr → Prop} {cc : ByteArray} {maxL : Nat} {ret : Option FieldType} {hh : List (Nat × Nat × Nat × Nat)}
    (hy : plainName y.cls = true) (hw : ws = Cond.codeWith y cc maxL ret hh :: ws')
    (body : ∀ p e s m args below meth c s₁, BodyLoose p l y (headSpec ws rm) cc maxL ret e s m args below meth c s₁ → c.maxLocals = maxL → Pc args s →
      W p l e (headSpec ws rm).room s m args below meth c s.heap [] 0 0 (vx_MQ below Qc XC args s mc ms free) (entryFrame m args maxL)) : vx_Met l y ws rm Pc Qc XC mc ms free := by
  refine MetFree.of_bodyS (code := cc) (maxLocals := maxL) (ret := ret) hy ?_ ?_
  · intro args s m h hn
    obtain ⟨m9, meth, c, hn9, h1, h2, h3, h4, -, h5, h6, -⟩ := Cond.codeWith_spec (atoms_spec (ws := ws) h _ (by rw [hw]; exact List.mem_cons_self))
    cases hn.symm.trans hn9
    exact ⟨meth, c, h1, h2, h3, h4, h5, h6⟩
  · intro p e s m args below meth c s₁ B hml hP _
    have hh0 : s₁.heap = s.heap := by rw [B.state]; rfl
    obtain ⟨t, a1, o, b1, b2, b3⟩ := body p e s m args below meth c s₁ B hml hP s₁ hh0 (Stand.of_body B)
    exact ⟨t, o, a1, b1, b2, b3⟩
/-! ===== END ===== -/
end
section
def RX0 : String := "GossipHead$BoardText"
def TX0 : u_T := fun k => match k with
  | 0 => ("GossipHead$BoardText", "codes", "[I", true)
  | 1 => ("GossipHead$BoardText", "length", "I", false)
  | 2 => ("GossipHead$BoardText", "numbers", "[I", true)
  | 3 => ("GossipHead$BoardText", "column", "I", false)
  | 4 => ("GossipHead$BoardText", "digits", "I", false)
  | _ => ("GossipHead$BoardText", "isFeeder", "Z", false)
def tyX0 : Nat → FieldType := fun k => match k with
  | 0 => .array .int
  | 1 => .int
  | 2 => .array .int
  | 3 => .int
  | 4 => .int
  | _ => .boolean
abbrev wsX00 : List Cond := u_ws RX0 TX0 6
theorem nmX0 : ∀ a, a < 6 → ∀ b, b < 6 → a ≠ b → (TX0 a).2.1 ≠ (TX0 b).2.1 := by decide +kernel
theorem tyX0_ok : ∀ k, k < 6 → parseFieldDescriptor (TX0 k).2.2.1 = some (tyX0 k) := by decide +kernel
def RX1 : String := "GossipHead$History"
def TX1 : u_T := fun k => match k with
  | 0 => ("GossipHead$History", "saved", "[LGossipHead$State;", true)
  | _ => ("GossipHead$History", "size", "I", false)
def tyX1 : Nat → FieldType := fun k => match k with
  | 0 => .array (.object "GossipHead$State")
  | _ => .int
abbrev wsX10 : List Cond := u_ws RX1 TX1 2
theorem nmX1 : ∀ a, a < 2 → ∀ b, b < 2 → a ≠ b → (TX1 a).2.1 ≠ (TX1 b).2.1 := by decide +kernel
theorem tyX1_ok : ∀ k, k < 2 → parseFieldDescriptor (TX1 k).2.2.1 = some (tyX1 k) := by decide +kernel
def RX2 : String := "GossipHead$State"
def TX2 : u_T := fun k => match k with
  | 0 => ("GossipHead$State", "feederCount", "I", false)
  | 1 => ("GossipHead$State", "placeCount", "I", false)
  | 2 => ("GossipHead$State", "time", "I", false)
  | 3 => ("GossipHead$State", "seed", "I", false)
  | 4 => ("GossipHead$State", "headX", "I", false)
  | 5 => ("GossipHead$State", "tours", "I", false)
  | 6 => ("GossipHead$State", "foundWrong", "I", false)
  | 7 => ("GossipHead$State", "settings", "[I", true)
  | 8 => ("GossipHead$State", "feeders", "LGossipHead$Table;", true)
  | 9 => ("GossipHead$State", "places", "LGossipHead$Table;", true)
  | 10 => ("GossipHead$State", "nozzles", "LGossipHead$Table;", true)
  | _ => ("GossipHead$State", "trusts", "LGossipHead$Table;", true)
def tyX2 : Nat → FieldType := fun k => match k with
  | 0 => .int
  | 1 => .int
  | 2 => .int
  | 3 => .int
  | 4 => .int
  | 5 => .int
  | 6 => .int
  | 7 => .array .int
  | 8 => .object "GossipHead$Table"
  | 9 => .object "GossipHead$Table"
  | 10 => .object "GossipHead$Table"
  | _ => .object "GossipHead$Table"
abbrev wsX20 : List Cond := u_ws RX2 TX2 12
theorem nmX2 : ∀ a, a < 12 → ∀ b, b < 12 → a ≠ b → (TX2 a).2.1 ≠ (TX2 b).2.1 := by decide +kernel
theorem tyX2_ok : ∀ k, k < 12 → parseFieldDescriptor (TX2 k).2.2.1 = some (tyX2 k) := by decide +kernel
def RX3 : String := "GossipHead$Table"
def TX3 : u_T := fun k => match k with
  | 0 => ("GossipHead$Table", "cells", "[I", true)
  | _ => ("GossipHead$Table", "columns", "I", true)
def tyX3 : Nat → FieldType := fun k => match k with
  | 0 => .array .int
  | _ => .int
abbrev wsX30 : List Cond := u_ws RX3 TX3 2
theorem nmX3 : ∀ a, a < 2 → ∀ b, b < 2 → a ≠ b → (TX3 a).2.1 ≠ (TX3 b).2.1 := by decide +kernel
theorem tyX3_ok : ∀ k, k < 2 → parseFieldDescriptor (TX3 k).2.2.1 = some (tyX3 k) := by decide +kernel
def RX4 : String := "GossipHead$Tour"
def TX4 : u_T := fun k => match k with
  | 0 => ("GossipHead$Tour", "aims", "[I", true)
  | 1 => ("GossipHead$Tour", "sources", "[I", true)
  | _ => ("GossipHead$Tour", "turned", "[Z", true)
def tyX4 : Nat → FieldType := fun k => match k with
  | 0 => .array .int
  | 1 => .array .int
  | _ => .array .boolean
abbrev wsX40 : List Cond := u_ws RX4 TX4 3
theorem nmX4 : ∀ a, a < 3 → ∀ b, b < 3 → a ≠ b → (TX4 a).2.1 ≠ (TX4 b).2.1 := by decide +kernel
theorem tyX4_ok : ∀ k, k < 3 → parseFieldDescriptor (TX4 k).2.2.1 = some (tyX4 k) := by decide +kernel
def RX5 : String := "GossipHead"
def TX5 : u_T := fun k => match k with
  | 0 => ("GossipHead", "now", "LGossipHead$State;", true)
  | 1 => ("GossipHead", "trial", "LGossipHead$State;", true)
  | 2 => ("GossipHead", "route", "LGossipHead$Tour;", true)
  | 3 => ("GossipHead", "history", "LGossipHead$History;", true)
  | _ => ("GossipHead", "text", "LGossipHead$BoardText;", true)
def tyX5 : Nat → FieldType := fun k => match k with
  | 0 => .object "GossipHead$State"
  | 1 => .object "GossipHead$State"
  | 2 => .object "GossipHead$Tour"
  | 3 => .object "GossipHead$History"
  | _ => .object "GossipHead$BoardText"
abbrev wsX50 : List Cond := u_ws RX5 TX5 5
theorem nmX5 : ∀ a, a < 5 → ∀ b, b < 5 → a ≠ b → (TX5 a).2.1 ≠ (TX5 b).2.1 := by decide +kernel
theorem tyX5_ok : ∀ k, k < 5 → parseFieldDescriptor (TX5 k).2.2.1 = some (tyX5 k) := by decide +kernel
def RX6 : String := "GossipHeadModel"
def TX6 : u_T := fun k => match k with
  | 0 => ("GossipHeadModel", "z", "[I", true)
  | 1 => ("GossipHeadModel", "states", "I", false)
  | 2 => ("GossipHeadModel", "history", "[I", true)
  | 3 => ("GossipHeadModel", "length", "I", false)
  | 4 => ("GossipHeadModel", "text", "[I", true)
  | 5 => ("GossipHeadModel", "thrown", "I", false)
  | 6 => ("GossipHeadModel", "aims", "[I", true)
  | 7 => ("GossipHeadModel", "parted", "[I", true)
  | 8 => ("GossipHeadModel", "turned", "[I", true)
  | 9 => ("GossipHeadModel", "parts", "[I", true)
  | 10 => ("GossipHeadModel", "read", "I", false)
  | 11 => ("GossipHeadModel", "number", "I", false)
  | 12 => ("GossipHeadModel", "due", "I", false)
  | 13 => ("GossipHeadModel", "kept", "[I", true)
  | _ => ("GossipHeadModel", "hash", "J", false)
def tyX6 : Nat → FieldType := fun k => match k with
  | 0 => .array .int
  | 1 => .int
  | 2 => .array .int
  | 3 => .int
  | 4 => .array .int
  | 5 => .int
  | 6 => .array .int
  | 7 => .array .int
  | 8 => .array .int
  | 9 => .array .int
  | 10 => .int
  | 11 => .int
  | 12 => .int
  | 13 => .array .int
  | _ => .long
abbrev wsX60 : List Cond := u_ws RX6 TX6 15
theorem nmX6 : ∀ a, a < 15 → ∀ b, b < 15 → a ≠ b → (TX6 a).2.1 ≠ (TX6 b).2.1 := by decide +kernel
theorem tyX6_ok : ∀ k, k < 15 → parseFieldDescriptor (TX6 k).2.2.1 = some (tyX6 k) := by decide +kernel
def RJxe99ae : String := "java/lang/Double"
def TJxe99ae : u_T := fun k => match k with
  | _ => ("", "", "", false)
def tyJxe99ae : Nat → FieldType := fun k => match k with
  | _ => .int
abbrev wsJxe99ae0 : List Cond := u_ws RJxe99ae TJxe99ae 0
theorem nmJxe99ae : ∀ a, a < 0 → ∀ b, b < 0 → a ≠ b → (TJxe99ae a).2.1 ≠ (TJxe99ae b).2.1 := by decide +kernel
theorem tyJxe99ae_ok : ∀ k, k < 0 → parseFieldDescriptor (TJxe99ae k).2.2.1 = some (tyJxe99ae k) := by decide +kernel
def RJ9 : String := "java/lang/Math"
def TJ9 : u_T := fun k => match k with
  | _ => ("", "", "", false)
def tyJ9 : Nat → FieldType := fun k => match k with
  | _ => .int
abbrev wsJ90 : List Cond := u_ws RJ9 TJ9 0
theorem nmJ9 : ∀ a, a < 0 → ∀ b, b < 0 → a ≠ b → (TJ9 a).2.1 ≠ (TJ9 b).2.1 := by decide +kernel
theorem tyJ9_ok : ∀ k, k < 0 → parseFieldDescriptor (TJ9 k).2.2.1 = some (tyJ9 k) := by decide +kernel
def RJ0 : String := "java/lang/String"
def TJ0 : u_T := fun k => match k with
  | _ => ("", "", "", false)
def tyJ0 : Nat → FieldType := fun k => match k with
  | _ => .int
abbrev wsJ00 : List Cond := u_ws RJ0 TJ0 0
theorem nmJ0 : ∀ a, a < 0 → ∀ b, b < 0 → a ≠ b → (TJ0 a).2.1 ≠ (TJ0 b).2.1 := by decide +kernel
theorem tyJ0_ok : ∀ k, k < 0 → parseFieldDescriptor (TJ0 k).2.2.1 = some (tyJ0 k) := by decide +kernel
def RJ10 : String := "java/lang/System"
def TJ10 : u_T := fun k => match k with
  | _ => ("", "", "", false)
def tyJ10 : Nat → FieldType := fun k => match k with
  | _ => .int
abbrev wsJ100 : List Cond := u_ws RJ10 TJ10 0
theorem nmJ10 : ∀ a, a < 0 → ∀ b, b < 0 → a ≠ b → (TJ10 a).2.1 ≠ (TJ10 b).2.1 := by decide +kernel
theorem tyJ10_ok : ∀ k, k < 0 → parseFieldDescriptor (TJ10 k).2.2.1 = some (tyJ10 k) := by decide +kernel
def RL : String := "GossipHeadLaw"
abbrev vwCl : List vw_C := [(RX0, TX0, 6), (RX1, TX1, 2), (RX2, TX2, 12), (RX3, TX3, 2), (RX4, TX4, 3), (RX5, TX5, 5), (RX6, TX6, 15)]
end
section
/-! THE JUDGEMENT V: a method's walk said of its world, its locals and its stack alone (no heap, no state in sight); contracts UC (returns), UX (returns or throws) -/
abbrev GT : Type := Launch × va_G × (Nat → ClassId)
abbrev gT (g : GT) : List (ClassId × FieldType) := [(g.2.2 0, .int), (g.2.2 1, .boolean), (g.2.2 2, .object RX2), (g.2.2 3, .long)]
def gsT : Nat → Int32 := fun j => [5, 50, 50, 100, 100].getD j 0
def gnT : Nat → Int32 := fun j => [99, 5, 500].getD j 0
def ksG : List (String × Nat × String) := [("GossipHead", 50, "too many feeders"), ("GossipHead", 66, "too many places"), ("GossipHead", 85, "too many parts"), ("GossipHead", 124, "the buffer is full"), ("GossipHead", 138, "no complete board"), ("GossipHead", 148, "no saved state"), ("GossipHead", 161, "no such place"), ("GossipHead", 185, "no such number"), ("GossipHead", 267, "no such feeder"), ("GossipHead", 269, "no such nozzle"), ("GossipHead", 271, "no such setting"), ("GossipHead", 273, "out of range")]
def knG : List (String × String) := [("java/lang/IllegalArgumentException", "java/lang/IndexOutOfBoundsException"), ("java/lang/IllegalStateException", "java/lang/IllegalArgumentException"), ("java/lang/IllegalStateException", "java/lang/IndexOutOfBoundsException")]
def kdG : List MethodName := [⟨"java/lang/RuntimeException", "<init>", "(Ljava/lang/String;)V"⟩, ⟨"java/lang/Exception", "<init>", "(Ljava/lang/String;)V"⟩, ⟨"java/lang/Throwable", "<init>", "(Ljava/lang/String;)V"⟩]
def kcG : List String := ["java/lang/IllegalArgumentException", "java/lang/IllegalStateException", "java/lang/IndexOutOfBoundsException"]
/-- what stays through the whole run beside the worlds: two static rows, what a throw needs, the texts of the throws -/
def EG (A : Nat → Prop) (U : State) (H : Heap) : Prop :=
  (∃ t : Nat, va_Z "GossipHead" "GREATEST_SETTING" "[I" (.ref t) A U H ∧ va_T .int t 5 (fun j => .int (gsT j)) A U H) ∧
  (∃ t : Nat, va_Z "GossipHead$BoardText" "GREATEST_NUMBER" "[I" (.ref t) A U H ∧ va_T .int t 3 (fun j => .int (gnT j)) A U H) ∧
  vx_Zq Bundle.tN "UNASSIGNED_STACK" Bundle.steD A U H ∧ vx_Zq Bundle.tN "SUPPRESSED_SENTINEL" Bundle.listD A U H ∧
  (∀ q ∈ ksG, ∃ a : Nat, vk_R q.1 q.2.1 q.2.2 a U) ∧ (∀ q ∈ knG, va_Nc q.1 q.2 U) ∧ (∀ x ∈ kdG, va_Nw (.declares x) U) ∧ (∀ x ∈ kcG, va_Nw (.castable x x) U) ∧ va_AO RX2 U
theorem EG.go {A B : Nat → Prop} {s U : State} {locs : List Loc} (h : EG A s s.heap) (hW : s.WarmedH U.vm) (hS : va_S A s.heap U.heap locs) (hAB : ∀ q, B q → A q) : EG B U U.heap := by
  obtain ⟨⟨t1, a1, a2⟩, ⟨t2, b1, b2⟩, c1, c2, d1, d2, d3, d4, d5⟩ := h
  have hk : ∀ a : Nat, a < s.heap.size → ¬ A a → U.heap[a]? = s.heap[a]? := hS.2.1
  have hv := hW.alike
  exact ⟨⟨t1, va_Z.narrow (va_Z.moved hv (a1.kept hk)) hAB, va_T.narrow (va_T.moved hv (a2.kept hk)) hAB⟩, ⟨t2, va_Z.narrow (va_Z.moved hv (b1.kept hk)) hAB, va_T.narrow (va_T.moved hv (b2.kept hk)) hAB⟩, vx_Zq.narrow (vx_Zq.moved hv (c1.kept hk)) hAB, vx_Zq.narrow (vx_Zq.moved hv (c2.kept hk)) hAB, fun q hq => (d1 q hq).elim fun a ha => ⟨a, vk_R.warm hW ha⟩, fun q hq => va_Nc.moved hv (d2 q hq), fun x hx => (d3 x hx).warmD hW, fun x hx => (d4 x hx).warmC hW, va_AO.moved hv d5⟩
theorem EG.calling {A : Nat → Prop} {U : State} (gg : JFrame) (mk : MethodId) (a : Array Value) (h : EG A U U.heap) : EG A (U.calling gg mk a) (U.calling gg mk a).heap := by
  obtain ⟨⟨t1, a1, a2⟩, ⟨t2, b1, b2⟩, c1, c2, d1, d2, d3, d4, d5⟩ := h
  have hv : U.vm.Alike (U.calling gg mk a).vm := Vm.Alike.refl U.vm
  exact ⟨⟨t1, va_Z.moved hv a1, va_T.moved hv a2⟩, ⟨t2, va_Z.moved hv b1, va_T.moved hv b2⟩, vx_Zq.moved hv c1, vx_Zq.moved hv c2, fun q hq => (d1 q hq).elim fun y hy => ⟨y, vk_R.same rfl hy⟩, fun q hq => va_Nc.moved hv (d2 q hq), fun x hx => (d3 x hx).same rfl rfl, fun x hx => (d4 x hx).same rfl rfl, va_AO.moved hv d5⟩
/-! a world with some of its cells put anew, and new ones behind -/
def insG : List Nat → va_W → va_W → va_W
  | [], ws, w => ws ++ w
  | i :: is, ws, w => match w with
    | [] => ws
    | x :: w' => insG is (ws.set i x) w'
abbrev insW (ws : va_W) (is : List Nat) (w : va_W) : va_W := insG is ws w
theorem insW_at : ∀ (is : List Nat) (ws w : va_W), is.length ≤ w.length → ∀ (j : Nat) (x : Nat × va_E), (insW ws is w)[j]? = some x → x ∈ w ∨ (j ∉ is ∧ ws[j]? = some x)
  | [], ws, w, _, j, x, h => by
    rcases Nat.lt_or_ge j ws.length with hj | hj
    · have h : (ws ++ w)[j]? = some x := h
      rw [List.getElem?_append_left hj] at h
      exact Or.inr ⟨List.not_mem_nil, h⟩
    · have h : (ws ++ w)[j]? = some x := h
      rw [List.getElem?_append_right hj] at h
      exact Or.inl (List.mem_of_getElem? h)
  | i :: is, ws, [], hl, j, x, h => absurd hl (by simp)
  | i :: is, ws, y :: w, hl, j, x, h => by
    rcases insW_at is (ws.set i y) w (by simpa using hl) j x h with h1 | ⟨h1, h2⟩
    · exact Or.inl (List.mem_cons_of_mem _ h1)
    · by_cases hji : j = i
      · subst hji
        have hlt : j < ws.length := by
          have := (List.getElem?_eq_some_iff.mp h2).1
          simpa using this
        rw [List.getElem?_set_self hlt] at h2
        cases h2
        exact Or.inl List.mem_cons_self
      · rw [List.getElem?_set_ne (Ne.symm hji)] at h2
        exact Or.inr ⟨fun hm => (List.mem_cons.mp hm).elim hji h1, h2⟩
theorem insW_fst : ∀ (is : List Nat) (ws w : va_W), is.length ≤ w.length → is.map (fun i => (ws[i]?).map Prod.fst) = (w.take is.length).map (fun x => some x.1) → (insW ws is w).map Prod.fst = ws.map Prod.fst ++ (w.drop is.length).map Prod.fst
  | [], ws, w, _, _ => by simp [insG]
  | i :: is, ws, [], hl, _ => absurd hl (by simp)
  | i :: is, ws, y :: w, hl, h => by
    simp only [List.map_cons, List.length_cons, List.take_succ_cons, List.cons.injEq] at h
    obtain ⟨h1, h2⟩ := h
    have key : ∀ j : Nat, ((ws.set i y)[j]?).map Prod.fst = (ws[j]?).map Prod.fst := by
      intro j
      by_cases hji : j = i
      · subst hji
        cases hw : ws[j]? with
        | none => rw [hw] at h1; cases h1
        | some z =>
          rw [hw] at h1
          rw [List.getElem?_set_self (List.getElem?_eq_some_iff.mp hw).1]
          exact h1.symm
      · rw [List.getElem?_set_ne (Ne.symm hji)]
    have hset : (ws.set i y).map Prod.fst = ws.map Prod.fst := by
      apply List.ext_getElem?
      intro j
      rw [List.getElem?_map, List.getElem?_map, key]
    show (insW (ws.set i y) is w).map Prod.fst = _
    rw [insW_fst is (ws.set i y) w (by simpa using hl) ?_, hset]
    · rfl
    · rw [← h2]
      exact List.map_congr_left fun j _ => key j
theorem insW_ok {A0 : Nat → Prop} {D : va_G} {cl : List vw_C} {ws wc w1 : va_W} {H H1 : Heap} (hP : va_P D cl ws H) (hD : va_D A0 ws) (is : List Nat) (hC : is.map (fun i => ws[i]?) = wc.map some)
    (hk : ∀ q : Nat, q < H.size → ¬ va_A wc H.size q → H1[q]? = H[q]?) (hF : ∀ q, va_A wc H.size q → A0 q) (hP1 : va_P D cl w1 H1) (hD1 : va_D (va_A wc H.size) w1) (ha : (w1.take is.length).map Prod.fst = wc.map Prod.fst) : va_P D cl (insW ws is w1) H1 ∧ va_D A0 (insW ws is w1) := by
  have hlen : is.length = wc.length := by
    have := congrArg List.length hC
    simpa using this
  have hle : is.length ≤ w1.length := by
    have := congrArg List.length ha
    rw [List.length_map, List.length_map, List.length_take] at this
    omega
  have hCat : ∀ (k : Nat) (q : Nat × va_E), wc[k]? = some q → ∃ i, is[k]? = some i ∧ ws[i]? = some q := by
    intro k q hq
    have h1 : (is.map (fun i => ws[i]?))[k]? = some (some q) := by rw [hC, List.getElem?_map, hq]; rfl
    rw [List.getElem?_map] at h1
    cases hi : is[k]? with
    | none => rw [hi] at h1; cases h1
    | some i => rw [hi] at h1; exact ⟨i, rfl, Option.some.inj h1⟩
  have apart : ∀ (j : Nat) (q : Nat × va_E), j ∉ is → ws[j]? = some q → q.1 < H.size ∧ ¬ va_A wc H.size q.1 := by
    intro j q hj hq
    have hl := (hP j q hq).lt
    refine ⟨hl, fun h => ?_⟩
    rcases h with ⟨k2, e, h⟩ | h
    · obtain ⟨i, h3, h4⟩ := hCat k2 (q.1, e) h
      have hij := hD.1 j i q (q.1, e) hq h4 rfl
      subst hij
      exact hj (List.mem_of_getElem? h3)
    · omega
  have hfst : (insW ws is w1).map Prod.fst = ws.map Prod.fst ++ (w1.drop is.length).map Prod.fst := by
    refine insW_fst is ws w1 hle ?_
    have h1 : is.map (fun i => (ws[i]?).map Prod.fst) = (is.map (fun i => ws[i]?)).map (fun o => o.map Prod.fst) := by rw [List.map_map]; rfl
    have h2 : (w1.take is.length).map (fun x => some x.1) = ((w1.take is.length).map Prod.fst).map some := by rw [List.map_map]; rfl
    rw [h1, hC, h2, ha, List.map_map, List.map_map]; rfl
  refine ⟨fun k q hq => ?_, fun i j x y hi hj hxy => ?_, fun k q hq => ?_⟩
  · rcases insW_at is ws w1 hle k q hq with h | ⟨h1, h2⟩
    · obtain ⟨j, hj⟩ := List.getElem?_of_mem h
      exact hP1 j q hj
    · obtain ⟨g1, g2⟩ := apart k q h1 h2
      exact (hP k q h2).kept (hk q.1 g1 g2)
  · have ex : ∀ (i : Nat) (x : Nat × va_E), (insW ws is w1)[i]? = some x → (i < ws.length ∧ ∃ x0, ws[i]? = some x0 ∧ x0.1 = x.1) ∨ (ws.length ≤ i ∧ ∃ x0, w1[is.length + (i - ws.length)]? = some x0 ∧ x0.1 = x.1) := by
      intro i x hi
      have h1 : ((insW ws is w1).map Prod.fst)[i]? = some x.1 := by rw [List.getElem?_map, hi]; rfl
      rw [hfst] at h1
      rcases Nat.lt_or_ge i ws.length with hl | hl
      · rw [List.getElem?_append_left (by simpa using hl), List.getElem?_map] at h1
        cases hw : ws[i]? with
        | none => rw [hw] at h1; cases h1
        | some x0 => rw [hw] at h1; exact Or.inl ⟨hl, x0, rfl, Option.some.inj h1⟩
      · rw [List.getElem?_append_right (by simpa using hl), List.getElem?_map, List.getElem?_drop, List.length_map] at h1
        cases hw : w1[is.length + (i - ws.length)]? with
        | none => rw [hw] at h1; cases h1
        | some x0 => rw [hw] at h1; exact Or.inr ⟨hl, x0, rfl, Option.some.inj h1⟩
    have big : ∀ (k : Nat) (x0 : Nat × va_E), is.length ≤ k → w1[k]? = some x0 → H.size ≤ x0.1 := by
      intro k x0 hk0 hx0
      rcases hD1.2 k x0 hx0 with ⟨k2, e, h⟩ | h
      · exfalso
        have hk2 : k2 < wc.length := (List.getElem?_eq_some_iff.mp h).1
        have h3 : ((w1.take is.length).map Prod.fst)[k2]? = some x0.1 := by rw [ha, List.getElem?_map, h]; rfl
        rw [List.getElem?_map, List.getElem?_take_of_lt (by omega)] at h3
        cases hw : w1[k2]? with
        | none => rw [hw] at h3; cases h3
        | some z =>
          rw [hw] at h3
          have := hD1.1 k2 k z x0 hw hx0 (Option.some.inj h3)
          omega
      · exact h
    rcases ex i x hi with ⟨l1, x0, g1, g2⟩ | ⟨l1, x0, g1, g2⟩ <;> rcases ex j y hj with ⟨l2, y0, g3, g4⟩ | ⟨l2, y0, g3, g4⟩
    · exact hD.1 i j x0 y0 g1 g3 (g2.trans (hxy.trans g4.symm))
    · have h1 := (hP i x0 g1).lt
      have h2 := big _ y0 (Nat.le_add_right _ _) g3
      omega
    · have h1 := (hP j y0 g3).lt
      have h2 := big _ x0 (Nat.le_add_right _ _) g1
      omega
    · have := hD1.1 _ _ x0 y0 g1 g3 (g2.trans (hxy.trans g4.symm))
      omega
  · rcases insW_at is ws w1 hle k q hq with h | ⟨h1, h2⟩
    · obtain ⟨j, hj⟩ := List.getElem?_of_mem h
      exact hF q.1 (hD1.2 j q hj)
    · exact hD.2 k q h2
/-! contracts: what a call answers and leaves behind, for a world of cells -/
def QU (g : GT) (Q : Option Value → va_W → Prop) (A : Nat → Prop) : Array Value → State → Outcome → State → Prop := fun _ st oc t => (∃ (v : Option Value) (w : va_W), oc = .returned v ∧ Q v w ∧ va_P g.2.1 vwCl w t.heap ∧ va_D A w) ∧ va_F A st t
def XU (g : GT) (X : String → va_W → Prop) (A : Nat → Prop) : String → State → State → Prop := fun E st t => (∃ w : va_W, X E w ∧ va_P g.2.1 vwCl w t.heap ∧ va_D A w) ∧ va_F A st t
def PU (g : GT) (av : List Value) (W0 : va_W) (sz : Nat) : Array Value → State → Prop := va_Pc av (fun U => U.heap.size = sz ∧ va_P g.2.1 vwCl W0 U.heap ∧ va_K g.2.1 vwCl (gT g) U ∧ va_D (fun _ => True) W0 ∧ EG (va_A W0 sz) U U.heap)
def UC (g : GT) (y : MethodName) (wy : List Cond) (rm : Room) (av : List Value) (W0 : va_W) (Q : Option Value → va_W → Prop) : Prop := ∀ sz : Nat, Met g.1 y wy rm (PU g av W0 sz) (QU g Q (va_A W0 sz)) rm.cells rm.slots (va_A W0 sz)
def UX (g : GT) (y : MethodName) (wy : List Cond) (rm : Room) (av : List Value) (W0 : va_W) (Q : Option Value → va_W → Prop) (X : String → va_W → Prop) : Prop := ∀ sz : Nat, vx_Met g.1 y wy rm (PU g av W0 sz) (QU g Q (va_A W0 sz)) (XU g X (va_A W0 sz)) rm.cells rm.slots (va_A W0 sz)
abbrev XT : Type := Program → State → MethodId → Array Value → Method → Code → (Nat → Prop) → Prop
abbrev QT : Type := List Frame → Array Value → State → (Nat → Prop) → State → Prop
def V (g : GT) (R : Room) (own : String) (cc : ByteArray) (Ts : List Cond) (nL : Nat) (QF : QT) (X : XT) (k n : Nat) (ws : va_W) (pc : Nat) (lv : List (Nat × Value)) (st : List Value) : Prop :=
  ∀ (p : Program) (e : Env) (s : State) (m : MethodId) (args : Array Value) (below : List Frame) (meth : Method) (c : Code) (A : Nat → Prop), p.tables.exec = Jvm.exec → c.code = cc → c.maxLocals = nL → s.vm.findClass own = some m.cls → (∀ w ∈ Ts, w.before args s = true) → (∀ q : Nat, s.heap.size ≤ q → A q) → EG A s s.heap → X p s m args meth c A →
    ∀ (H : Heap) (locs : List Loc) (ls : Array Slot), va_P g.2.1 vwCl ws H → va_K g.2.1 vwCl (gT g) s → va_D A ws → va_S A s.heap H locs → lv_has ls nL lv → W p g.1 e R s m args below meth c H locs k n (QF below args s A) (F0 m pc ls st)
def QFr (g : GT) (rm : Room) (Q : Option Value → va_W → Prop) : QT := fun below args s A => MQ below (QU g Q A) args s rm.cells rm.slots A
def QFx (g : GT) (rm : Room) (Q : Option Value → va_W → Prop) (X : String → va_W → Prop) : QT := fun below args s A => vx_MQ below (QU g Q A) (XU g X A) args s rm.cells rm.slots A
/-- what a method's walk knows of its own method: what it answers, no lock, its name, its table of handlers -/
def XM (ret : Option FieldType) (nm : String) : XT := fun _ _ _ _ meth _ _ => meth.sig.returnType = ret ∧ meth.locks = false ∧ meth.name = nm
def XMx (ret : Option FieldType) (nm : String) : XT := fun _ _ _ _ meth c _ => meth.sig.returnType = ret ∧ meth.locks = false ∧ meth.name = nm ∧ ∀ x ∈ c.exceptionTable.toList, False
def XMh (ret : Option FieldType) (hh : List (Nat × Nat × Nat × Nat)) : XT := fun _ _ _ _ meth c _ => meth.sig.returnType = ret ∧ meth.locks = false ∧ c.exceptionTable.toList = tableOf hh
section KV
variable {g : GT} {R : Room} {own : String} {cc : ByteArray} {Ts : List Cond} {nL : Nat} {QF : QT} {X : XT} {k n : Nat} {ws : va_W} {pc : Nat} {lv : List (Nat × Value)} {st rest : List Value}
theorem UC.ofV {y : MethodName} {wy ws' : List Cond} {rm : Room} {av : List Value} {W0 : va_W} {Q : Option Value → va_W → Prop} {maxL : Nat} {ret : Option FieldType} {lv0 : List (Nat × Value)} (hy : plainName y.cls = true) (hw : wy = Cond.code y cc maxL ret :: ws') (hn : (lg_sl av).length ≤ maxL) (hlv : lv_args 0 av = lv0)
    (hv : V g rm y.cls cc wy maxL (QFr g rm Q) (XM ret y.name) 0 0 W0 0 lv0 []) : UC g y wy rm av W0 Q := by
  intro sz
  refine Met.ofW (cc := cc) (maxL := maxL) (ret := ret) hy hw ?_
  intro p e s m args below meth c s₁ B hml hv0
  obtain ⟨rfl, hsz, hP, hK, hD, hE⟩ := hv0
  subst hsz
  have hl := lv_entry av (n := maxL) hn
  rw [hlv] at hl
  rw [lg_entry_eq]
  exact hv p e s m _ below meth c (va_A W0 s.heap.size) B.exec B.bytes hml (findClass_of_methodNamed B.named) (atoms_spec (ws := wy) B.pre) (fun q h => Or.inr h) hE ⟨B.returns, B.notSynchronized, (name_of_methodNamed B.named B.method).1⟩ s.heap [] _ hP hK hD.self va_S.rf hl
theorem UX.ofV {y : MethodName} {wy ws' : List Cond} {rm : Room} {av : List Value} {W0 : va_W} {Q : Option Value → va_W → Prop} {XX : String → va_W → Prop} {maxL : Nat} {ret : Option FieldType} {lv0 : List (Nat × Value)} (hy : plainName y.cls = true) (hw : wy = Cond.code y cc maxL ret :: ws') (hn : (lg_sl av).length ≤ maxL) (hlv : lv_args 0 av = lv0)
    (hv : V g rm y.cls cc wy maxL (QFx g rm Q XX) (XMx ret y.name) 0 0 W0 0 lv0 []) : UX g y wy rm av W0 Q XX := by
  intro sz
  refine vx_ofW (cc := cc) (maxL := maxL) (ret := ret) hy hw ?_
  intro p e s m args below meth c s₁ B hml htab hv0
  obtain ⟨rfl, hsz, hP, hK, hD, hE⟩ := hv0
  subst hsz
  have hl := lv_entry av (n := maxL) hn
  rw [hlv] at hl
  rw [lg_entry_eq]
  exact hv p e s m _ below meth c (va_A W0 s.heap.size) B.exec B.bytes hml (findClass_of_methodNamed B.named) (atoms_spec (ws := wy) B.pre) (fun q h => Or.inr h) hE ⟨B.returns, B.notSynchronized, (name_of_methodNamed B.named B.method).1, htab⟩ s.heap [] _ hP hK hD.self va_S.rf hl
theorem UX.ofVH {y : MethodName} {wy ws' : List Cond} {rm : Room} {av : List Value} {W0 : va_W} {Q : Option Value → va_W → Prop} {XX : String → va_W → Prop} {maxL : Nat} {ret : Option FieldType} {hh : List (Nat × Nat × Nat × Nat)} {lv0 : List (Nat × Value)} (hy : plainName y.cls = true) (hw : wy = Cond.codeWith y cc maxL ret hh :: ws') (hn : (lg_sl av).length ≤ maxL) (hlv : lv_args 0 av = lv0)
    (hv : V g rm y.cls cc wy maxL (QFx g rm Q XX) (XMh ret hh) 0 0 W0 0 lv0 []) : UX g y wy rm av W0 Q XX := by
  intro sz
  refine vx_ofWH (cc := cc) (maxL := maxL) (ret := ret) (hh := hh) hy hw ?_
  intro p e s m args below meth c s₁ B hml hv0
  obtain ⟨rfl, hsz, hP, hK, hD, hE⟩ := hv0
  subst hsz
  have hl := lv_entry av (n := maxL) hn
  rw [hlv] at hl
  rw [lg_entry_eq]
  have hts := atoms_spec (ws := wy) B.pre
  exact hv p e s m _ below meth c (va_A W0 s.heap.size) B.exec B.bytes hml (findClass_of_methodNamed B.named) hts (fun q h => Or.inr h) hE ⟨B.returns, B.notSynchronized, vx_table (x := y) B (hts _ (by rw [hw]; exact List.mem_cons_self))⟩ s.heap [] _ hP hK hD.self va_S.rf hl
theorem V.eqst {st2 : List Value} (h : st = st2) (kk : V g R own cc Ts nL QF X k n ws pc lv st2) : V g R own cc Ts nL QF X k n ws pc lv st := h ▸ kk
theorem V.eqws {ws2 : va_W} (h : ws = ws2) (kk : V g R own cc Ts nL QF X k n ws2 pc lv st) : V g R own cc Ts nL QF X k n ws pc lv st := h ▸ kk
theorem V.eqlv {lv2 : List (Nat × Value)} (ks : List Nat) (h : lv_pick lv ks = lv2) (kk : V g R own cc Ts nL QF X k n ws pc lv2 st) : V g R own cc Ts nL QF X k n ws pc lv st :=
  fun p e s m args below meth c A hx hb hml ho ht hA hE hX H locs ls hP hK hD hS hl => kk p e s m args below meth c A hx hb hml ho ht hA hE hX H locs ls hP hK hD hS (lv_sub hl ks h)
theorem V.widen {k2 n2 : Nat} (h1 : k ≤ k2) (h2 : n ≤ n2) (kk : V g R own cc Ts nL QF X k2 n2 ws pc lv st) : V g R own cc Ts nL QF X k n ws pc lv st :=
  fun p e s m args below meth c A hx hb hml ho ht hA hE hX H locs ls hP hK hD hS hl => W.widen h1 h2 (kk p e s m args below meth c A hx hb hml ho ht hA hE hX H locs ls hP hK hD hS hl)
/-- an instruction that touches locals and stack alone -/
theorem V.lift {pc2 : Nat} {lv2 : List (Nat × Value)} {st2 : List Value} (h : ∀ (p : Program) (e : Env) (s : State) (m : MethodId) (args : Array Value) (below : List Frame) (meth : Method) (c : Code) (H : Heap) (locs : List Loc) (ls : Array Slot) (Q : State → Prop), p.tables.exec = Jvm.exec → c.code = cc → s.vm.findClass own = some m.cls → (∀ w ∈ Ts, w.before args s = true) → lv_has ls nL lv → (∀ ls2 : Array Slot, lv_has ls2 nL lv2 → W p g.1 e R s m args below meth c H locs k n Q (F0 m pc2 ls2 st2)) → W p g.1 e R s m args below meth c H locs k n Q (F0 m pc ls st))
    (kk : V g R own cc Ts nL QF X k n ws pc2 lv2 st2) : V g R own cc Ts nL QF X k n ws pc lv st :=
  fun p e s m args below meth c A hx hb hml ho ht hA hE hX H locs ls hP hK hD hS hl => h p e s m args below meth c H locs ls _ hx hb ho ht hl (fun ls2 hl2 => kk p e s m args below meth c A hx hb hml ho ht hA hE hX H locs ls2 hP hK hD hS hl2)
theorem V.iload_n {j : Fin 4} {i : Nat} {x : Int32} (q : Nat) (hk : lv[q]? = some (i, .int x)) (hd : decode cc pc = .ok (.iload_n j, 1)) (hi : (j : Nat) = i) (kk : V g R own cc Ts nL QF X k n ws (pc + 1) lv (.int x :: st)) : V g R own cc Ts nL QF X k n ws pc lv (st) := V.lift (fun p e s m args below meth c H locs ls Q hx hb ho ht hl kk => lv_iload_n hx hb hd hi (lv_at hl q hk) (kk ls hl)) kk
theorem V.iload {i : Nat} {x : Int32} (q : Nat) (hk : lv[q]? = some (i, .int x)) (hd : decode cc pc = .ok (.iload i, 2)) (kk : V g R own cc Ts nL QF X k n ws (pc + 2) lv (.int x :: st)) : V g R own cc Ts nL QF X k n ws pc lv (st) := V.lift (fun p e s m args below meth c H locs ls Q hx hb ho ht hl kk => lv_iload hx hb hd (lv_at hl q hk) (kk ls hl)) kk
theorem V.aload_n {j : Fin 4} {i : Nat} {x : Nat} (q : Nat) (hk : lv[q]? = some (i, .ref x)) (hd : decode cc pc = .ok (.aload_n j, 1)) (hi : (j : Nat) = i) (kk : V g R own cc Ts nL QF X k n ws (pc + 1) lv (.ref x :: st)) : V g R own cc Ts nL QF X k n ws pc lv (st) := V.lift (fun p e s m args below meth c H locs ls Q hx hb ho ht hl kk => lv_aload_n hx hb hd hi (lv_at hl q hk) (kk ls hl)) kk
theorem V.aload {i : Nat} {x : Nat} (q : Nat) (hk : lv[q]? = some (i, .ref x)) (hd : decode cc pc = .ok (.aload i, 2)) (kk : V g R own cc Ts nL QF X k n ws (pc + 2) lv (.ref x :: st)) : V g R own cc Ts nL QF X k n ws pc lv (st) := V.lift (fun p e s m args below meth c H locs ls Q hx hb ho ht hl kk => lv_aload hx hb hd (lv_at hl q hk) (kk ls hl)) kk
theorem V.lload_n {j : Fin 4} {i : Nat} {x : Int64} (q : Nat) (hk : lv[q]? = some (i, .long x)) (hd : decode cc pc = .ok (.lload_n j, 1)) (hi : (j : Nat) = i) (kk : V g R own cc Ts nL QF X k n ws (pc + 1) lv (.long x :: st)) : V g R own cc Ts nL QF X k n ws pc lv (st) := V.lift (fun p e s m args below meth c H locs ls Q hx hb ho ht hl kk => lv_lload_n hx hb hd hi (lv_at hl q hk) (kk ls hl)) kk
theorem V.lload {i : Nat} {x : Int64} (q : Nat) (hk : lv[q]? = some (i, .long x)) (hd : decode cc pc = .ok (.lload i, 2)) (kk : V g R own cc Ts nL QF X k n ws (pc + 2) lv (.long x :: st)) : V g R own cc Ts nL QF X k n ws pc lv (st) := V.lift (fun p e s m args below meth c H locs ls Q hx hb ho ht hl kk => lv_lload hx hb hd (lv_at hl q hk) (kk ls hl)) kk
theorem V.dload_n {j : Fin 4} {i : Nat} {x : UInt64} (q : Nat) (hk : lv[q]? = some (i, .double x)) (hd : decode cc pc = .ok (.dload_n j, 1)) (hi : (j : Nat) = i) (kk : V g R own cc Ts nL QF X k n ws (pc + 1) lv (.double x :: st)) : V g R own cc Ts nL QF X k n ws pc lv (st) := V.lift (fun p e s m args below meth c H locs ls Q hx hb ho ht hl kk => lv_dload_n hx hb hd hi (lv_at hl q hk) (kk ls hl)) kk
theorem V.dload {i : Nat} {x : UInt64} (q : Nat) (hk : lv[q]? = some (i, .double x)) (hd : decode cc pc = .ok (.dload i, 2)) (kk : V g R own cc Ts nL QF X k n ws (pc + 2) lv (.double x :: st)) : V g R own cc Ts nL QF X k n ws pc lv (st) := V.lift (fun p e s m args below meth c H locs ls Q hx hb ho ht hl kk => lv_dload hx hb hd (lv_at hl q hk) (kk ls hl)) kk
theorem V.istore_n {j : Fin 4} {i : Nat} {x : Int32} {lv2 : List (Nat × Value)} (hd : decode cc pc = .ok (.istore_n j, 1)) (hi : (j : Nat) = i) (hn : i < nL) (hl2 : (i, Value.int x) :: lv.filter (fun q => !(q.1 == i) && !(q.1 + 1 == i && q.2.category == 2)) = lv2) (kk : V g R own cc Ts nL QF X k n ws (pc + 1) lv2 (st)) : V g R own cc Ts nL QF X k n ws pc lv (.int x :: st) := V.lift (fun p e s m args below meth c H locs ls Q hx hb ho ht hl kk => lv_istore_n hx hb hd hi hl hn hl2 kk) kk
theorem V.istore {i : Nat} {x : Int32} {lv2 : List (Nat × Value)} (hd : decode cc pc = .ok (.istore i, 2)) (hn : i < nL) (hl2 : (i, Value.int x) :: lv.filter (fun q => !(q.1 == i) && !(q.1 + 1 == i && q.2.category == 2)) = lv2) (kk : V g R own cc Ts nL QF X k n ws (pc + 2) lv2 (st)) : V g R own cc Ts nL QF X k n ws pc lv (.int x :: st) := V.lift (fun p e s m args below meth c H locs ls Q hx hb ho ht hl kk => lv_istore hx hb hd hl hn hl2 kk) kk
theorem V.astore_n {j : Fin 4} {i : Nat} {x : Nat} {lv2 : List (Nat × Value)} (hd : decode cc pc = .ok (.astore_n j, 1)) (hi : (j : Nat) = i) (hn : i < nL) (hl2 : (i, Value.ref x) :: lv.filter (fun q => !(q.1 == i) && !(q.1 + 1 == i && q.2.category == 2)) = lv2) (kk : V g R own cc Ts nL QF X k n ws (pc + 1) lv2 (st)) : V g R own cc Ts nL QF X k n ws pc lv (.ref x :: st) := V.lift (fun p e s m args below meth c H locs ls Q hx hb ho ht hl kk => lv_astore_n hx hb hd hi hl hn hl2 kk) kk
theorem V.astore {i : Nat} {x : Nat} {lv2 : List (Nat × Value)} (hd : decode cc pc = .ok (.astore i, 2)) (hn : i < nL) (hl2 : (i, Value.ref x) :: lv.filter (fun q => !(q.1 == i) && !(q.1 + 1 == i && q.2.category == 2)) = lv2) (kk : V g R own cc Ts nL QF X k n ws (pc + 2) lv2 (st)) : V g R own cc Ts nL QF X k n ws pc lv (.ref x :: st) := V.lift (fun p e s m args below meth c H locs ls Q hx hb ho ht hl kk => lv_astore hx hb hd hl hn hl2 kk) kk
theorem V.lstore_n {j : Fin 4} {i : Nat} {x : Int64} {lv2 : List (Nat × Value)} (hd : decode cc pc = .ok (.lstore_n j, 1)) (hi : (j : Nat) = i) (hn : i + 1 < nL) (hl2 : (i, Value.long x) :: lv.filter (fun q => !(q.1 == i) && (!(q.1 == i + 1) && !(q.1 + 1 == i && q.2.category == 2))) = lv2) (kk : V g R own cc Ts nL QF X k n ws (pc + 1) lv2 (st)) : V g R own cc Ts nL QF X k n ws pc lv (.long x :: st) := V.lift (fun p e s m args below meth c H locs ls Q hx hb ho ht hl kk => lv_lstore_n hx hb hd hi hl hn hl2 kk) kk
theorem V.lstore {i : Nat} {x : Int64} {lv2 : List (Nat × Value)} (hd : decode cc pc = .ok (.lstore i, 2)) (hn : i + 1 < nL) (hl2 : (i, Value.long x) :: lv.filter (fun q => !(q.1 == i) && (!(q.1 == i + 1) && !(q.1 + 1 == i && q.2.category == 2))) = lv2) (kk : V g R own cc Ts nL QF X k n ws (pc + 2) lv2 (st)) : V g R own cc Ts nL QF X k n ws pc lv (.long x :: st) := V.lift (fun p e s m args below meth c H locs ls Q hx hb ho ht hl kk => lv_lstore hx hb hd hl hn hl2 kk) kk
theorem V.dstore_n {j : Fin 4} {i : Nat} {x : UInt64} {lv2 : List (Nat × Value)} (hd : decode cc pc = .ok (.dstore_n j, 1)) (hi : (j : Nat) = i) (hn : i + 1 < nL) (hl2 : (i, Value.double x) :: lv.filter (fun q => !(q.1 == i) && (!(q.1 == i + 1) && !(q.1 + 1 == i && q.2.category == 2))) = lv2) (kk : V g R own cc Ts nL QF X k n ws (pc + 1) lv2 (st)) : V g R own cc Ts nL QF X k n ws pc lv (.double x :: st) := V.lift (fun p e s m args below meth c H locs ls Q hx hb ho ht hl kk => lv_dstore_n hx hb hd hi hl hn hl2 kk) kk
theorem V.dstore {i : Nat} {x : UInt64} {lv2 : List (Nat × Value)} (hd : decode cc pc = .ok (.dstore i, 2)) (hn : i + 1 < nL) (hl2 : (i, Value.double x) :: lv.filter (fun q => !(q.1 == i) && (!(q.1 == i + 1) && !(q.1 + 1 == i && q.2.category == 2))) = lv2) (kk : V g R own cc Ts nL QF X k n ws (pc + 2) lv2 (st)) : V g R own cc Ts nL QF X k n ws pc lv (.double x :: st) := V.lift (fun p e s m args below meth c H locs ls Q hx hb ho ht hl kk => lv_dstore hx hb hd hl hn hl2 kk) kk
theorem V.iinc {i : Nat} {z : Int} {x v : Int32} {lv2 : List (Nat × Value)} (q : Nat) (hk : lv[q]? = some (i, .int x)) (hd : decode cc pc = .ok (.iinc i z, 3)) (hv : x + Int32.ofInt z = v) (hn : i < nL) (hl2 : (i, Value.int v) :: lv.filter (fun q => !(q.1 == i) && !(q.1 + 1 == i && q.2.category == 2)) = lv2) (kk : V g R own cc Ts nL QF X k n ws (pc + 3) lv2 (st)) : V g R own cc Ts nL QF X k n ws pc lv (st) := V.lift (fun p e s m args below meth c H locs ls Q hx hb ho ht hl kk => lv_iinc hx hb hd hl hk hv hn hl2 kk) kk
theorem V.iconst {z : Int} {v : Int32} (hd : decode cc pc = .ok (.iconst z, 1)) (hv : Int32.ofInt z = v) (kk : V g R own cc Ts nL QF X k n ws (pc + 1) lv (.int v :: st)) : V g R own cc Ts nL QF X k n ws pc lv (st) := V.lift (fun p e s m args below meth c H locs ls Q hx hb ho ht hl kk => lv_iconst hx hb hd hv (kk ls hl)) kk
theorem V.bipush {z : Int} {v : Int32} (hd : decode cc pc = .ok (.bipush z, 2)) (hv : (Int8.ofInt z).toInt32 = v) (kk : V g R own cc Ts nL QF X k n ws (pc + 2) lv (.int v :: st)) : V g R own cc Ts nL QF X k n ws pc lv (st) := V.lift (fun p e s m args below meth c H locs ls Q hx hb ho ht hl kk => lv_bipush hx hb hd hv (kk ls hl)) kk
theorem V.sipush {z : Int} {v : Int32} (hd : decode cc pc = .ok (.sipush z, 3)) (hv : (Int16.ofInt z).toInt32 = v) (kk : V g R own cc Ts nL QF X k n ws (pc + 3) lv (.int v :: st)) : V g R own cc Ts nL QF X k n ws pc lv (st) := V.lift (fun p e s m args below meth c H locs ls Q hx hb ho ht hl kk => lv_sipush hx hb hd hv (kk ls hl)) kk
theorem V.lconst {z : Fin 2} {v : Int64} (hd : decode cc pc = .ok (.lconst z, 1)) (hv : Int64.ofNat (z : Nat) = v) (kk : V g R own cc Ts nL QF X k n ws (pc + 1) lv (.long v :: st)) : V g R own cc Ts nL QF X k n ws pc lv (st) := V.lift (fun p e s m args below meth c H locs ls Q hx hb ho ht hl kk => lv_lconst hx hb hd hv (kk ls hl)) kk
theorem V.ldci {i : Nat} {v : Int32} (hw : Cond.constant own i v ∈ Ts) (hd : decode cc pc = .ok (.ldc i, 2)) (kk : V g R own cc Ts nL QF X k n ws (pc + 2) lv (.int v :: st)) : V g R own cc Ts nL QF X k n ws pc lv (st) := V.lift (fun p e s m args below meth c H locs ls Q hx hb ho ht hl kk => lv_ldc hx hb ho (ht _ hw) hd (kk ls hl)) kk
theorem V.ldc2 {i : Nat} {v : Int64} (hw : Cond.constantLong own i v ∈ Ts) (hd : decode cc pc = .ok (.ldc2_w i, 3)) (kk : V g R own cc Ts nL QF X k n ws (pc + 3) lv (.long v :: st)) : V g R own cc Ts nL QF X k n ws pc lv (st) := V.lift (fun p e s m args below meth c H locs ls Q hx hb ho ht hl kk => lv_ldc2 hx hb ho (ht _ hw) hd (kk ls hl)) kk
theorem V.iadd {x y : Int32} (hd : decode cc pc = .ok (.iadd, 1)) (kk : V g R own cc Ts nL QF X k n ws (pc + 1) lv (.int (x + y) :: st)) : V g R own cc Ts nL QF X k n ws pc lv (.int y :: .int x :: st) := V.lift (fun p e s m args below meth c H locs ls Q hx hb ho ht hl kk => lv_iadd hx hb hd (kk ls hl)) kk
theorem V.iaddN {x y v : Int32} (hd : decode cc pc = .ok (.iadd, 1)) (hv : x + y = v) (kk : V g R own cc Ts nL QF X k n ws (pc + 1) lv (.int v :: st)) : V g R own cc Ts nL QF X k n ws pc lv (.int y :: .int x :: st) := V.lift (fun p e s m args below meth c H locs ls Q hx hb ho ht hl kk => lv_iadd hx hb hd (hv ▸ kk ls hl)) kk
theorem V.isub {x y : Int32} (hd : decode cc pc = .ok (.isub, 1)) (kk : V g R own cc Ts nL QF X k n ws (pc + 1) lv (.int (x - y) :: st)) : V g R own cc Ts nL QF X k n ws pc lv (.int y :: .int x :: st) := V.lift (fun p e s m args below meth c H locs ls Q hx hb ho ht hl kk => lv_isub hx hb hd (kk ls hl)) kk
theorem V.isubN {x y v : Int32} (hd : decode cc pc = .ok (.isub, 1)) (hv : x - y = v) (kk : V g R own cc Ts nL QF X k n ws (pc + 1) lv (.int v :: st)) : V g R own cc Ts nL QF X k n ws pc lv (.int y :: .int x :: st) := V.lift (fun p e s m args below meth c H locs ls Q hx hb ho ht hl kk => lv_isub hx hb hd (hv ▸ kk ls hl)) kk
theorem V.imul {x y : Int32} (hd : decode cc pc = .ok (.imul, 1)) (kk : V g R own cc Ts nL QF X k n ws (pc + 1) lv (.int (x * y) :: st)) : V g R own cc Ts nL QF X k n ws pc lv (.int y :: .int x :: st) := V.lift (fun p e s m args below meth c H locs ls Q hx hb ho ht hl kk => lv_imul hx hb hd (kk ls hl)) kk
theorem V.imulN {x y v : Int32} (hd : decode cc pc = .ok (.imul, 1)) (hv : x * y = v) (kk : V g R own cc Ts nL QF X k n ws (pc + 1) lv (.int v :: st)) : V g R own cc Ts nL QF X k n ws pc lv (.int y :: .int x :: st) := V.lift (fun p e s m args below meth c H locs ls Q hx hb ho ht hl kk => lv_imul hx hb hd (hv ▸ kk ls hl)) kk
theorem V.iand {x y : Int32} (hd : decode cc pc = .ok (.iand, 1)) (kk : V g R own cc Ts nL QF X k n ws (pc + 1) lv (.int (x &&& y) :: st)) : V g R own cc Ts nL QF X k n ws pc lv (.int y :: .int x :: st) := V.lift (fun p e s m args below meth c H locs ls Q hx hb ho ht hl kk => lv_iand hx hb hd (kk ls hl)) kk
theorem V.iandN {x y v : Int32} (hd : decode cc pc = .ok (.iand, 1)) (hv : x &&& y = v) (kk : V g R own cc Ts nL QF X k n ws (pc + 1) lv (.int v :: st)) : V g R own cc Ts nL QF X k n ws pc lv (.int y :: .int x :: st) := V.lift (fun p e s m args below meth c H locs ls Q hx hb ho ht hl kk => lv_iand hx hb hd (hv ▸ kk ls hl)) kk
theorem V.ior {x y : Int32} (hd : decode cc pc = .ok (.ior, 1)) (kk : V g R own cc Ts nL QF X k n ws (pc + 1) lv (.int (x ||| y) :: st)) : V g R own cc Ts nL QF X k n ws pc lv (.int y :: .int x :: st) := V.lift (fun p e s m args below meth c H locs ls Q hx hb ho ht hl kk => lv_ior hx hb hd (kk ls hl)) kk
theorem V.iorN {x y v : Int32} (hd : decode cc pc = .ok (.ior, 1)) (hv : x ||| y = v) (kk : V g R own cc Ts nL QF X k n ws (pc + 1) lv (.int v :: st)) : V g R own cc Ts nL QF X k n ws pc lv (.int y :: .int x :: st) := V.lift (fun p e s m args below meth c H locs ls Q hx hb ho ht hl kk => lv_ior hx hb hd (hv ▸ kk ls hl)) kk
theorem V.idiv {x y : Int32} (hd : decode cc pc = .ok (.idiv, 1)) (hne : ¬ y = 0) (kk : V g R own cc Ts nL QF X k n ws (pc + 1) lv (.int (x / y) :: st)) : V g R own cc Ts nL QF X k n ws pc lv (.int y :: .int x :: st) := V.lift (fun p e s m args below meth c H locs ls Q hx hb ho ht hl kk => lv_idiv hx hb hd hne (kk ls hl)) kk
theorem V.irem {x y : Int32} (hd : decode cc pc = .ok (.irem, 1)) (hne : ¬ y = 0) (kk : V g R own cc Ts nL QF X k n ws (pc + 1) lv (.int (x - x / y * y) :: st)) : V g R own cc Ts nL QF X k n ws pc lv (.int y :: .int x :: st) := V.lift (fun p e s m args below meth c H locs ls Q hx hb ho ht hl kk => lv_irem hx hb hd hne (kk ls hl)) kk
theorem V.ishl {x y : Int32} (hd : decode cc pc = .ok (.ishl, 1)) (kk : V g R own cc Ts nL QF X k n ws (pc + 1) lv (.int (x <<< (y &&& 31)) :: st)) : V g R own cc Ts nL QF X k n ws pc lv (.int y :: .int x :: st) := V.lift (fun p e s m args below meth c H locs ls Q hx hb ho ht hl kk => lv_ishl hx hb hd (kk ls hl)) kk
theorem V.ishr {x y : Int32} (hd : decode cc pc = .ok (.ishr, 1)) (kk : V g R own cc Ts nL QF X k n ws (pc + 1) lv (.int (x >>> (y &&& 31)) :: st)) : V g R own cc Ts nL QF X k n ws pc lv (.int y :: .int x :: st) := V.lift (fun p e s m args below meth c H locs ls Q hx hb ho ht hl kk => lv_ishr hx hb hd (kk ls hl)) kk
theorem V.ineg {x : Int32} (hd : decode cc pc = .ok (.ineg, 1)) (kk : V g R own cc Ts nL QF X k n ws (pc + 1) lv (.int (-x) :: st)) : V g R own cc Ts nL QF X k n ws pc lv (.int x :: st) := V.lift (fun p e s m args below meth c H locs ls Q hx hb ho ht hl kk => lv_ineg hx hb hd (kk ls hl)) kk
theorem V.ladd {x y : Int64} (hd : decode cc pc = .ok (.ladd, 1)) (kk : V g R own cc Ts nL QF X k n ws (pc + 1) lv (.long (x + y) :: st)) : V g R own cc Ts nL QF X k n ws pc lv (.long y :: .long x :: st) := V.lift (fun p e s m args below meth c H locs ls Q hx hb ho ht hl kk => lv_ladd hx hb hd (kk ls hl)) kk
theorem V.lsub {x y : Int64} (hd : decode cc pc = .ok (.lsub, 1)) (kk : V g R own cc Ts nL QF X k n ws (pc + 1) lv (.long (x - y) :: st)) : V g R own cc Ts nL QF X k n ws pc lv (.long y :: .long x :: st) := V.lift (fun p e s m args below meth c H locs ls Q hx hb ho ht hl kk => lv_lsub hx hb hd (kk ls hl)) kk
theorem V.lmul {x y : Int64} (hd : decode cc pc = .ok (.lmul, 1)) (kk : V g R own cc Ts nL QF X k n ws (pc + 1) lv (.long (x * y) :: st)) : V g R own cc Ts nL QF X k n ws pc lv (.long y :: .long x :: st) := V.lift (fun p e s m args below meth c H locs ls Q hx hb ho ht hl kk => lv_lmul hx hb hd (kk ls hl)) kk
theorem V.land {x y : Int64} (hd : decode cc pc = .ok (.land, 1)) (kk : V g R own cc Ts nL QF X k n ws (pc + 1) lv (.long (x &&& y) :: st)) : V g R own cc Ts nL QF X k n ws pc lv (.long y :: .long x :: st) := V.lift (fun p e s m args below meth c H locs ls Q hx hb ho ht hl kk => lv_land hx hb hd (kk ls hl)) kk
theorem V.lrem {x y : Int64} (hd : decode cc pc = .ok (.lrem, 1)) (hne : ¬ y = 0) (kk : V g R own cc Ts nL QF X k n ws (pc + 1) lv (.long (x - x / y * y) :: st)) : V g R own cc Ts nL QF X k n ws pc lv (.long y :: .long x :: st) := V.lift (fun p e s m args below meth c H locs ls Q hx hb ho ht hl kk => lv_lrem hx hb hd hne (kk ls hl)) kk
theorem V.i2l {x : Int32} (hd : decode cc pc = .ok (.i2l, 1)) (kk : V g R own cc Ts nL QF X k n ws (pc + 1) lv (.long x.toInt64 :: st)) : V g R own cc Ts nL QF X k n ws pc lv (.int x :: st) := V.lift (fun p e s m args below meth c H locs ls Q hx hb ho ht hl kk => lv_i2l hx hb hd rfl (kk ls hl)) kk
theorem V.l2i {x : Int64} (hd : decode cc pc = .ok (.l2i, 1)) (kk : V g R own cc Ts nL QF X k n ws (pc + 1) lv (.int x.toInt32 :: st)) : V g R own cc Ts nL QF X k n ws pc lv (.long x :: st) := V.lift (fun p e s m args below meth c H locs ls Q hx hb ho ht hl kk => lv_l2i hx hb hd rfl (kk ls hl)) kk
theorem V.i2d {x : Int32} (hd : decode cc pc = .ok (.i2d, 1)) (kk : V g R own cc Ts nL QF X k n ws (pc + 1) lv (.double (FP.i2d x) :: st)) : V g R own cc Ts nL QF X k n ws pc lv (.int x :: st) := V.lift (fun p e s m args below meth c H locs ls Q hx hb ho ht hl kk => lv_i2d hx hb hd (kk ls hl)) kk
theorem V.l2d {x : Int64} (hd : decode cc pc = .ok (.l2d, 1)) (kk : V g R own cc Ts nL QF X k n ws (pc + 1) lv (.double (FP.l2d x) :: st)) : V g R own cc Ts nL QF X k n ws pc lv (.long x :: st) := V.lift (fun p e s m args below meth c H locs ls Q hx hb ho ht hl kk => lv_l2d hx hb hd (kk ls hl)) kk
theorem V.d2l {x : UInt64} (hd : decode cc pc = .ok (.d2l, 1)) (kk : V g R own cc Ts nL QF X k n ws (pc + 1) lv (.long (FP.d2l x) :: st)) : V g R own cc Ts nL QF X k n ws pc lv (.double x :: st) := V.lift (fun p e s m args below meth c H locs ls Q hx hb ho ht hl kk => lv_d2l hx hb hd (kk ls hl)) kk
theorem V.ddiv {x y : UInt64} (hd : decode cc pc = .ok (.ddiv, 1)) (hne : vf_n64 (FP.ddiv x y)) (kk : V g R own cc Ts nL QF X k n ws (pc + 1) lv (.double (FP.ddiv x y) :: st)) : V g R own cc Ts nL QF X k n ws pc lv (.double y :: .double x :: st) := V.lift (fun p e s m args below meth c H locs ls Q hx hb ho ht hl kk => lv_ddiv hx hb hd hne (kk ls hl)) kk
theorem V.dmul {x y : UInt64} (hd : decode cc pc = .ok (.dmul, 1)) (hne : vf_n64 (FP.dmul x y)) (kk : V g R own cc Ts nL QF X k n ws (pc + 1) lv (.double (FP.dmul x y) :: st)) : V g R own cc Ts nL QF X k n ws pc lv (.double y :: .double x :: st) := V.lift (fun p e s m args below meth c H locs ls Q hx hb ho ht hl kk => lv_dmul hx hb hd hne (kk ls hl)) kk
theorem V.dcmp {x y : UInt64} {op : CmpOp} (hd : decode cc pc = .ok (.dcmp op, 1)) (kk : V g R own cc Ts nL QF X k n ws (pc + 1) lv (.int (Op.cmpValue (FP.dcmp x y) op) :: st)) : V g R own cc Ts nL QF X k n ws pc lv (.double y :: .double x :: st) := V.lift (fun p e s m args below meth c H locs ls Q hx hb ho ht hl kk => lv_dcmp hx hb hd (kk ls hl)) kk
theorem V.dup {a : Value} (hd : decode cc pc = .ok (.dup, 1)) (ha : a.category = 1) (kk : V g R own cc Ts nL QF X k n ws (pc + 1) lv (a :: a :: st)) : V g R own cc Ts nL QF X k n ws pc lv (a :: st) := V.lift (fun p e s m args below meth c H locs ls Q hx hb ho ht hl kk => lv_dup hx hb hd ha (kk ls hl)) kk
theorem V.dup_x1 {a b : Value} (hd : decode cc pc = .ok (.dup_x1, 1)) (ha : a.category = 1) (hb2 : b.category = 1) (kk : V g R own cc Ts nL QF X k n ws (pc + 1) lv (a :: b :: a :: st)) : V g R own cc Ts nL QF X k n ws pc lv (a :: b :: st) := V.lift (fun p e s m args below meth c H locs ls Q hx hb ho ht hl kk => lv_dup_x1 hx hb hd ha hb2 (kk ls hl)) kk
theorem V.dup2 {a b : Value} (hd : decode cc pc = .ok (.dup2, 1)) (ha : a.category = 1) (hb2 : b.category = 1) (kk : V g R own cc Ts nL QF X k n ws (pc + 1) lv (a :: b :: a :: b :: st)) : V g R own cc Ts nL QF X k n ws pc lv (a :: b :: st) := V.lift (fun p e s m args below meth c H locs ls Q hx hb ho ht hl kk => lv_dup2_11 hx hb hd ha hb2 (kk ls hl)) kk
theorem V.pop {a : Value} (hd : decode cc pc = .ok (.pop, 1)) (ha : a.category = 1) (kk : V g R own cc Ts nL QF X k n ws (pc + 1) lv (st)) : V g R own cc Ts nL QF X k n ws pc lv (a :: st) := V.lift (fun p e s m args below meth c H locs ls Q hx hb ho ht hl kk => lv_pop hx hb hd ha (kk ls hl)) kk
theorem V.goto {off : Int} {tgt : Nat} (hd : decode cc pc = .ok (.goto off, 3)) (ht2 : (pc : Int) + off = (tgt : Int)) (kk : V g R own cc Ts nL QF X k n ws tgt lv (st)) : V g R own cc Ts nL QF X k n ws pc lv (st) := V.lift (fun p e s m args below meth c H locs ls Q hx hb ho ht hl kk => lv_goto hx hb hd ht2 (kk ls hl)) kk
theorem V.icmp_eq {x y : Int32} {off : Int} {tgt : Nat} (hd : decode cc pc = .ok (.if_icmp .eq off, 3)) (ht2 : (pc : Int) + off = (tgt : Int)) (kt : x = y → V g R own cc Ts nL QF X k n ws tgt lv st) (kf : ¬ x = y → V g R own cc Ts nL QF X k n ws (pc + 3) lv st) : V g R own cc Ts nL QF X k n ws pc lv (.int y :: .int x :: st) := fun p e s m args below meth c A hx hb hml ho ht hA hE hX H locs ls hP hK hD hS hl => lv_icmp_eq hx hb hd ht2 (fun q => kt q p e s m args below meth c A hx hb hml ho ht hA hE hX H locs ls hP hK hD hS hl) (fun q => kf q p e s m args below meth c A hx hb hml ho ht hA hE hX H locs ls hP hK hD hS hl)
theorem V.icmp_eq_t {x y : Int32} {off : Int} {tgt : Nat} (hc : x = y) (hd : decode cc pc = .ok (.if_icmp .eq off, 3)) (ht2 : (pc : Int) + off = (tgt : Int)) (kt : V g R own cc Ts nL QF X k n ws tgt lv st) : V g R own cc Ts nL QF X k n ws pc lv (.int y :: .int x :: st) := V.icmp_eq hd ht2 (fun _ => kt) (fun q => absurd hc (by first | exact q | exact not_not_intro q))
theorem V.icmp_eq_f {x y : Int32} {off : Int} {tgt : Nat} (hc : ¬ x = y) (hd : decode cc pc = .ok (.if_icmp .eq off, 3)) (ht2 : (pc : Int) + off = (tgt : Int)) (kf : V g R own cc Ts nL QF X k n ws (pc + 3) lv st) : V g R own cc Ts nL QF X k n ws pc lv (.int y :: .int x :: st) := V.icmp_eq hd ht2 (fun q => absurd q (by first | exact hc | exact not_not_intro hc)) (fun _ => kf)
theorem V.if_eq {x : Int32} {off : Int} {tgt : Nat} (hd : decode cc pc = .ok (.ifCond .eq off, 3)) (ht2 : (pc : Int) + off = (tgt : Int)) (kt : x = 0 → V g R own cc Ts nL QF X k n ws tgt lv st) (kf : ¬ x = 0 → V g R own cc Ts nL QF X k n ws (pc + 3) lv st) : V g R own cc Ts nL QF X k n ws pc lv (.int x :: st) := fun p e s m args below meth c A hx hb hml ho ht hA hE hX H locs ls hP hK hD hS hl => lv_if_eq hx hb hd ht2 (fun q => kt q p e s m args below meth c A hx hb hml ho ht hA hE hX H locs ls hP hK hD hS hl) (fun q => kf q p e s m args below meth c A hx hb hml ho ht hA hE hX H locs ls hP hK hD hS hl)
theorem V.if_eq_t {x : Int32} {off : Int} {tgt : Nat} (hc : x = 0) (hd : decode cc pc = .ok (.ifCond .eq off, 3)) (ht2 : (pc : Int) + off = (tgt : Int)) (kt : V g R own cc Ts nL QF X k n ws tgt lv st) : V g R own cc Ts nL QF X k n ws pc lv (.int x :: st) := V.if_eq hd ht2 (fun _ => kt) (fun q => absurd hc (by first | exact q | exact not_not_intro q))
theorem V.if_eq_f {x : Int32} {off : Int} {tgt : Nat} (hc : ¬ x = 0) (hd : decode cc pc = .ok (.ifCond .eq off, 3)) (ht2 : (pc : Int) + off = (tgt : Int)) (kf : V g R own cc Ts nL QF X k n ws (pc + 3) lv st) : V g R own cc Ts nL QF X k n ws pc lv (.int x :: st) := V.if_eq hd ht2 (fun q => absurd q (by first | exact hc | exact not_not_intro hc)) (fun _ => kf)
theorem V.icmp_ne {x y : Int32} {off : Int} {tgt : Nat} (hd : decode cc pc = .ok (.if_icmp .ne off, 3)) (ht2 : (pc : Int) + off = (tgt : Int)) (kt : ¬ x = y → V g R own cc Ts nL QF X k n ws tgt lv st) (kf : x = y → V g R own cc Ts nL QF X k n ws (pc + 3) lv st) : V g R own cc Ts nL QF X k n ws pc lv (.int y :: .int x :: st) := fun p e s m args below meth c A hx hb hml ho ht hA hE hX H locs ls hP hK hD hS hl => lv_icmp_ne hx hb hd ht2 (fun q => kt q p e s m args below meth c A hx hb hml ho ht hA hE hX H locs ls hP hK hD hS hl) (fun q => kf q p e s m args below meth c A hx hb hml ho ht hA hE hX H locs ls hP hK hD hS hl)
theorem V.icmp_ne_t {x y : Int32} {off : Int} {tgt : Nat} (hc : ¬ x = y) (hd : decode cc pc = .ok (.if_icmp .ne off, 3)) (ht2 : (pc : Int) + off = (tgt : Int)) (kt : V g R own cc Ts nL QF X k n ws tgt lv st) : V g R own cc Ts nL QF X k n ws pc lv (.int y :: .int x :: st) := V.icmp_ne hd ht2 (fun _ => kt) (fun q => absurd hc (by first | exact q | exact not_not_intro q))
theorem V.icmp_ne_f {x y : Int32} {off : Int} {tgt : Nat} (hc : x = y) (hd : decode cc pc = .ok (.if_icmp .ne off, 3)) (ht2 : (pc : Int) + off = (tgt : Int)) (kf : V g R own cc Ts nL QF X k n ws (pc + 3) lv st) : V g R own cc Ts nL QF X k n ws pc lv (.int y :: .int x :: st) := V.icmp_ne hd ht2 (fun q => absurd q (by first | exact hc | exact not_not_intro hc)) (fun _ => kf)
theorem V.if_ne {x : Int32} {off : Int} {tgt : Nat} (hd : decode cc pc = .ok (.ifCond .ne off, 3)) (ht2 : (pc : Int) + off = (tgt : Int)) (kt : ¬ x = 0 → V g R own cc Ts nL QF X k n ws tgt lv st) (kf : x = 0 → V g R own cc Ts nL QF X k n ws (pc + 3) lv st) : V g R own cc Ts nL QF X k n ws pc lv (.int x :: st) := fun p e s m args below meth c A hx hb hml ho ht hA hE hX H locs ls hP hK hD hS hl => lv_if_ne hx hb hd ht2 (fun q => kt q p e s m args below meth c A hx hb hml ho ht hA hE hX H locs ls hP hK hD hS hl) (fun q => kf q p e s m args below meth c A hx hb hml ho ht hA hE hX H locs ls hP hK hD hS hl)
theorem V.if_ne_t {x : Int32} {off : Int} {tgt : Nat} (hc : ¬ x = 0) (hd : decode cc pc = .ok (.ifCond .ne off, 3)) (ht2 : (pc : Int) + off = (tgt : Int)) (kt : V g R own cc Ts nL QF X k n ws tgt lv st) : V g R own cc Ts nL QF X k n ws pc lv (.int x :: st) := V.if_ne hd ht2 (fun _ => kt) (fun q => absurd hc (by first | exact q | exact not_not_intro q))
theorem V.if_ne_f {x : Int32} {off : Int} {tgt : Nat} (hc : x = 0) (hd : decode cc pc = .ok (.ifCond .ne off, 3)) (ht2 : (pc : Int) + off = (tgt : Int)) (kf : V g R own cc Ts nL QF X k n ws (pc + 3) lv st) : V g R own cc Ts nL QF X k n ws pc lv (.int x :: st) := V.if_ne hd ht2 (fun q => absurd q (by first | exact hc | exact not_not_intro hc)) (fun _ => kf)
theorem V.icmp_lt {x y : Int32} {off : Int} {tgt : Nat} (hd : decode cc pc = .ok (.if_icmp .lt off, 3)) (ht2 : (pc : Int) + off = (tgt : Int)) (kt : x < y → V g R own cc Ts nL QF X k n ws tgt lv st) (kf : ¬ x < y → V g R own cc Ts nL QF X k n ws (pc + 3) lv st) : V g R own cc Ts nL QF X k n ws pc lv (.int y :: .int x :: st) := fun p e s m args below meth c A hx hb hml ho ht hA hE hX H locs ls hP hK hD hS hl => lv_icmp_lt hx hb hd ht2 (fun q => kt q p e s m args below meth c A hx hb hml ho ht hA hE hX H locs ls hP hK hD hS hl) (fun q => kf q p e s m args below meth c A hx hb hml ho ht hA hE hX H locs ls hP hK hD hS hl)
theorem V.icmp_lt_t {x y : Int32} {off : Int} {tgt : Nat} (hc : x < y) (hd : decode cc pc = .ok (.if_icmp .lt off, 3)) (ht2 : (pc : Int) + off = (tgt : Int)) (kt : V g R own cc Ts nL QF X k n ws tgt lv st) : V g R own cc Ts nL QF X k n ws pc lv (.int y :: .int x :: st) := V.icmp_lt hd ht2 (fun _ => kt) (fun q => absurd hc (by first | exact q | exact not_not_intro q))
theorem V.icmp_lt_f {x y : Int32} {off : Int} {tgt : Nat} (hc : ¬ x < y) (hd : decode cc pc = .ok (.if_icmp .lt off, 3)) (ht2 : (pc : Int) + off = (tgt : Int)) (kf : V g R own cc Ts nL QF X k n ws (pc + 3) lv st) : V g R own cc Ts nL QF X k n ws pc lv (.int y :: .int x :: st) := V.icmp_lt hd ht2 (fun q => absurd q (by first | exact hc | exact not_not_intro hc)) (fun _ => kf)
theorem V.if_lt {x : Int32} {off : Int} {tgt : Nat} (hd : decode cc pc = .ok (.ifCond .lt off, 3)) (ht2 : (pc : Int) + off = (tgt : Int)) (kt : x < 0 → V g R own cc Ts nL QF X k n ws tgt lv st) (kf : ¬ x < 0 → V g R own cc Ts nL QF X k n ws (pc + 3) lv st) : V g R own cc Ts nL QF X k n ws pc lv (.int x :: st) := fun p e s m args below meth c A hx hb hml ho ht hA hE hX H locs ls hP hK hD hS hl => lv_if_lt hx hb hd ht2 (fun q => kt q p e s m args below meth c A hx hb hml ho ht hA hE hX H locs ls hP hK hD hS hl) (fun q => kf q p e s m args below meth c A hx hb hml ho ht hA hE hX H locs ls hP hK hD hS hl)
theorem V.if_lt_t {x : Int32} {off : Int} {tgt : Nat} (hc : x < 0) (hd : decode cc pc = .ok (.ifCond .lt off, 3)) (ht2 : (pc : Int) + off = (tgt : Int)) (kt : V g R own cc Ts nL QF X k n ws tgt lv st) : V g R own cc Ts nL QF X k n ws pc lv (.int x :: st) := V.if_lt hd ht2 (fun _ => kt) (fun q => absurd hc (by first | exact q | exact not_not_intro q))
theorem V.if_lt_f {x : Int32} {off : Int} {tgt : Nat} (hc : ¬ x < 0) (hd : decode cc pc = .ok (.ifCond .lt off, 3)) (ht2 : (pc : Int) + off = (tgt : Int)) (kf : V g R own cc Ts nL QF X k n ws (pc + 3) lv st) : V g R own cc Ts nL QF X k n ws pc lv (.int x :: st) := V.if_lt hd ht2 (fun q => absurd q (by first | exact hc | exact not_not_intro hc)) (fun _ => kf)
theorem V.icmp_ge {x y : Int32} {off : Int} {tgt : Nat} (hd : decode cc pc = .ok (.if_icmp .ge off, 3)) (ht2 : (pc : Int) + off = (tgt : Int)) (kt : y ≤ x → V g R own cc Ts nL QF X k n ws tgt lv st) (kf : ¬ y ≤ x → V g R own cc Ts nL QF X k n ws (pc + 3) lv st) : V g R own cc Ts nL QF X k n ws pc lv (.int y :: .int x :: st) := fun p e s m args below meth c A hx hb hml ho ht hA hE hX H locs ls hP hK hD hS hl => lv_icmp_ge hx hb hd ht2 (fun q => kt q p e s m args below meth c A hx hb hml ho ht hA hE hX H locs ls hP hK hD hS hl) (fun q => kf q p e s m args below meth c A hx hb hml ho ht hA hE hX H locs ls hP hK hD hS hl)
theorem V.icmp_ge_t {x y : Int32} {off : Int} {tgt : Nat} (hc : y ≤ x) (hd : decode cc pc = .ok (.if_icmp .ge off, 3)) (ht2 : (pc : Int) + off = (tgt : Int)) (kt : V g R own cc Ts nL QF X k n ws tgt lv st) : V g R own cc Ts nL QF X k n ws pc lv (.int y :: .int x :: st) := V.icmp_ge hd ht2 (fun _ => kt) (fun q => absurd hc (by first | exact q | exact not_not_intro q))
theorem V.icmp_ge_f {x y : Int32} {off : Int} {tgt : Nat} (hc : ¬ y ≤ x) (hd : decode cc pc = .ok (.if_icmp .ge off, 3)) (ht2 : (pc : Int) + off = (tgt : Int)) (kf : V g R own cc Ts nL QF X k n ws (pc + 3) lv st) : V g R own cc Ts nL QF X k n ws pc lv (.int y :: .int x :: st) := V.icmp_ge hd ht2 (fun q => absurd q (by first | exact hc | exact not_not_intro hc)) (fun _ => kf)
theorem V.if_ge {x : Int32} {off : Int} {tgt : Nat} (hd : decode cc pc = .ok (.ifCond .ge off, 3)) (ht2 : (pc : Int) + off = (tgt : Int)) (kt : 0 ≤ x → V g R own cc Ts nL QF X k n ws tgt lv st) (kf : ¬ 0 ≤ x → V g R own cc Ts nL QF X k n ws (pc + 3) lv st) : V g R own cc Ts nL QF X k n ws pc lv (.int x :: st) := fun p e s m args below meth c A hx hb hml ho ht hA hE hX H locs ls hP hK hD hS hl => lv_if_ge hx hb hd ht2 (fun q => kt q p e s m args below meth c A hx hb hml ho ht hA hE hX H locs ls hP hK hD hS hl) (fun q => kf q p e s m args below meth c A hx hb hml ho ht hA hE hX H locs ls hP hK hD hS hl)
theorem V.if_ge_t {x : Int32} {off : Int} {tgt : Nat} (hc : 0 ≤ x) (hd : decode cc pc = .ok (.ifCond .ge off, 3)) (ht2 : (pc : Int) + off = (tgt : Int)) (kt : V g R own cc Ts nL QF X k n ws tgt lv st) : V g R own cc Ts nL QF X k n ws pc lv (.int x :: st) := V.if_ge hd ht2 (fun _ => kt) (fun q => absurd hc (by first | exact q | exact not_not_intro q))
theorem V.if_ge_f {x : Int32} {off : Int} {tgt : Nat} (hc : ¬ 0 ≤ x) (hd : decode cc pc = .ok (.ifCond .ge off, 3)) (ht2 : (pc : Int) + off = (tgt : Int)) (kf : V g R own cc Ts nL QF X k n ws (pc + 3) lv st) : V g R own cc Ts nL QF X k n ws pc lv (.int x :: st) := V.if_ge hd ht2 (fun q => absurd q (by first | exact hc | exact not_not_intro hc)) (fun _ => kf)
theorem V.icmp_gt {x y : Int32} {off : Int} {tgt : Nat} (hd : decode cc pc = .ok (.if_icmp .gt off, 3)) (ht2 : (pc : Int) + off = (tgt : Int)) (kt : y < x → V g R own cc Ts nL QF X k n ws tgt lv st) (kf : ¬ y < x → V g R own cc Ts nL QF X k n ws (pc + 3) lv st) : V g R own cc Ts nL QF X k n ws pc lv (.int y :: .int x :: st) := fun p e s m args below meth c A hx hb hml ho ht hA hE hX H locs ls hP hK hD hS hl => lv_icmp_gt hx hb hd ht2 (fun q => kt q p e s m args below meth c A hx hb hml ho ht hA hE hX H locs ls hP hK hD hS hl) (fun q => kf q p e s m args below meth c A hx hb hml ho ht hA hE hX H locs ls hP hK hD hS hl)
theorem V.icmp_gt_t {x y : Int32} {off : Int} {tgt : Nat} (hc : y < x) (hd : decode cc pc = .ok (.if_icmp .gt off, 3)) (ht2 : (pc : Int) + off = (tgt : Int)) (kt : V g R own cc Ts nL QF X k n ws tgt lv st) : V g R own cc Ts nL QF X k n ws pc lv (.int y :: .int x :: st) := V.icmp_gt hd ht2 (fun _ => kt) (fun q => absurd hc (by first | exact q | exact not_not_intro q))
theorem V.icmp_gt_f {x y : Int32} {off : Int} {tgt : Nat} (hc : ¬ y < x) (hd : decode cc pc = .ok (.if_icmp .gt off, 3)) (ht2 : (pc : Int) + off = (tgt : Int)) (kf : V g R own cc Ts nL QF X k n ws (pc + 3) lv st) : V g R own cc Ts nL QF X k n ws pc lv (.int y :: .int x :: st) := V.icmp_gt hd ht2 (fun q => absurd q (by first | exact hc | exact not_not_intro hc)) (fun _ => kf)
theorem V.if_gt {x : Int32} {off : Int} {tgt : Nat} (hd : decode cc pc = .ok (.ifCond .gt off, 3)) (ht2 : (pc : Int) + off = (tgt : Int)) (kt : 0 < x → V g R own cc Ts nL QF X k n ws tgt lv st) (kf : ¬ 0 < x → V g R own cc Ts nL QF X k n ws (pc + 3) lv st) : V g R own cc Ts nL QF X k n ws pc lv (.int x :: st) := fun p e s m args below meth c A hx hb hml ho ht hA hE hX H locs ls hP hK hD hS hl => lv_if_gt hx hb hd ht2 (fun q => kt q p e s m args below meth c A hx hb hml ho ht hA hE hX H locs ls hP hK hD hS hl) (fun q => kf q p e s m args below meth c A hx hb hml ho ht hA hE hX H locs ls hP hK hD hS hl)
theorem V.if_gt_t {x : Int32} {off : Int} {tgt : Nat} (hc : 0 < x) (hd : decode cc pc = .ok (.ifCond .gt off, 3)) (ht2 : (pc : Int) + off = (tgt : Int)) (kt : V g R own cc Ts nL QF X k n ws tgt lv st) : V g R own cc Ts nL QF X k n ws pc lv (.int x :: st) := V.if_gt hd ht2 (fun _ => kt) (fun q => absurd hc (by first | exact q | exact not_not_intro q))
theorem V.if_gt_f {x : Int32} {off : Int} {tgt : Nat} (hc : ¬ 0 < x) (hd : decode cc pc = .ok (.ifCond .gt off, 3)) (ht2 : (pc : Int) + off = (tgt : Int)) (kf : V g R own cc Ts nL QF X k n ws (pc + 3) lv st) : V g R own cc Ts nL QF X k n ws pc lv (.int x :: st) := V.if_gt hd ht2 (fun q => absurd q (by first | exact hc | exact not_not_intro hc)) (fun _ => kf)
theorem V.icmp_le {x y : Int32} {off : Int} {tgt : Nat} (hd : decode cc pc = .ok (.if_icmp .le off, 3)) (ht2 : (pc : Int) + off = (tgt : Int)) (kt : x ≤ y → V g R own cc Ts nL QF X k n ws tgt lv st) (kf : ¬ x ≤ y → V g R own cc Ts nL QF X k n ws (pc + 3) lv st) : V g R own cc Ts nL QF X k n ws pc lv (.int y :: .int x :: st) := fun p e s m args below meth c A hx hb hml ho ht hA hE hX H locs ls hP hK hD hS hl => lv_icmp_le hx hb hd ht2 (fun q => kt q p e s m args below meth c A hx hb hml ho ht hA hE hX H locs ls hP hK hD hS hl) (fun q => kf q p e s m args below meth c A hx hb hml ho ht hA hE hX H locs ls hP hK hD hS hl)
theorem V.icmp_le_t {x y : Int32} {off : Int} {tgt : Nat} (hc : x ≤ y) (hd : decode cc pc = .ok (.if_icmp .le off, 3)) (ht2 : (pc : Int) + off = (tgt : Int)) (kt : V g R own cc Ts nL QF X k n ws tgt lv st) : V g R own cc Ts nL QF X k n ws pc lv (.int y :: .int x :: st) := V.icmp_le hd ht2 (fun _ => kt) (fun q => absurd hc (by first | exact q | exact not_not_intro q))
theorem V.icmp_le_f {x y : Int32} {off : Int} {tgt : Nat} (hc : ¬ x ≤ y) (hd : decode cc pc = .ok (.if_icmp .le off, 3)) (ht2 : (pc : Int) + off = (tgt : Int)) (kf : V g R own cc Ts nL QF X k n ws (pc + 3) lv st) : V g R own cc Ts nL QF X k n ws pc lv (.int y :: .int x :: st) := V.icmp_le hd ht2 (fun q => absurd q (by first | exact hc | exact not_not_intro hc)) (fun _ => kf)
theorem V.if_le {x : Int32} {off : Int} {tgt : Nat} (hd : decode cc pc = .ok (.ifCond .le off, 3)) (ht2 : (pc : Int) + off = (tgt : Int)) (kt : x ≤ 0 → V g R own cc Ts nL QF X k n ws tgt lv st) (kf : ¬ x ≤ 0 → V g R own cc Ts nL QF X k n ws (pc + 3) lv st) : V g R own cc Ts nL QF X k n ws pc lv (.int x :: st) := fun p e s m args below meth c A hx hb hml ho ht hA hE hX H locs ls hP hK hD hS hl => lv_if_le hx hb hd ht2 (fun q => kt q p e s m args below meth c A hx hb hml ho ht hA hE hX H locs ls hP hK hD hS hl) (fun q => kf q p e s m args below meth c A hx hb hml ho ht hA hE hX H locs ls hP hK hD hS hl)
theorem V.if_le_t {x : Int32} {off : Int} {tgt : Nat} (hc : x ≤ 0) (hd : decode cc pc = .ok (.ifCond .le off, 3)) (ht2 : (pc : Int) + off = (tgt : Int)) (kt : V g R own cc Ts nL QF X k n ws tgt lv st) : V g R own cc Ts nL QF X k n ws pc lv (.int x :: st) := V.if_le hd ht2 (fun _ => kt) (fun q => absurd hc (by first | exact q | exact not_not_intro q))
theorem V.if_le_f {x : Int32} {off : Int} {tgt : Nat} (hc : ¬ x ≤ 0) (hd : decode cc pc = .ok (.ifCond .le off, 3)) (ht2 : (pc : Int) + off = (tgt : Int)) (kf : V g R own cc Ts nL QF X k n ws (pc + 3) lv st) : V g R own cc Ts nL QF X k n ws pc lv (.int x :: st) := V.if_le hd ht2 (fun q => absurd q (by first | exact hc | exact not_not_intro hc)) (fun _ => kf)
theorem V.dconst0 (hd : decode cc pc = .ok (.dconst 0, 1)) (kk : V g R own cc Ts nL QF X k n ws (pc + 1) lv (.double FP.dconst0 :: st)) : V g R own cc Ts nL QF X k n ws pc lv st := V.lift (fun p e s m args below meth c H locs ls Q hx hb ho ht hl kk => lv_dconst0 hx hb hd (kk ls hl)) kk
theorem V.dconst1 (hd : decode cc pc = .ok (.dconst 1, 1)) (kk : V g R own cc Ts nL QF X k n ws (pc + 1) lv (.double FP.dconst1 :: st)) : V g R own cc Ts nL QF X k n ws pc lv st := V.lift (fun p e s m args below meth c H locs ls Q hx hb ho ht hl kk => lv_dconst1 hx hb hd (kk ls hl)) kk
theorem V.ldc2d {i : Nat} {v : UInt64} (hw : Cond.constantDouble own i v ∈ Ts) (hd : decode cc pc = .ok (.ldc2_w i, 3)) (kk : V g R own cc Ts nL QF X k n ws (pc + 3) lv (.double v :: st)) : V g R own cc Ts nL QF X k n ws pc lv st := V.lift (fun p e s m args below meth c H locs ls Q hx hb ho ht hl kk => lv_ldc2d hx hb ho (ht _ hw) hd (kk ls hl)) kk
theorem V.lcmp {x y : Int64} (hd : decode cc pc = .ok (.lcmp, 1)) (kk : V g R own cc Ts nL QF X k n ws (pc + 1) lv (.int (lg_cmp x y) :: st)) : V g R own cc Ts nL QF X k n ws pc lv (.long y :: .long x :: st) := V.lift (fun p e s m args below meth c H locs ls Q hx hb ho ht hl kk => W.lcmp hx hb hd (kk ls hl)) kk
theorem V.lshl {x v : Int64} {y : Int32} (hd : decode cc pc = .ok (.lshl, 1)) (hv : x <<< (y.toInt64 &&& 63) = v) (kk : V g R own cc Ts nL QF X k n ws (pc + 1) lv (.long v :: st)) : V g R own cc Ts nL QF X k n ws pc lv (.int y :: .long x :: st) := V.lift (fun p e s m args below meth c H locs ls Q hx hb ho ht hl kk => lv_lshl hx hb hd hv (kk ls hl)) kk
theorem V.null (hd : decode cc pc = .ok (.aconst_null, 1)) (kk : V g R own cc Ts nL QF X k n ws (pc + 1) lv (.null :: st)) : V g R own cc Ts nL QF X k n ws pc lv st := V.lift (fun p e s m args below meth c H locs ls Q hx hb ho ht hl kk => lv_null hx hb hd (kk ls hl)) kk
theorem V.ifnonnull {a : Nat} {off : Int} {tgt : Nat} (hd : decode cc pc = .ok (.ifnonnull off, 3)) (ht2 : (pc : Int) + off = (tgt : Int)) (kk : V g R own cc Ts nL QF X k n ws tgt lv st) : V g R own cc Ts nL QF X k n ws pc lv (.ref a :: st) := V.lift (fun p e s m args below meth c H locs ls Q hx hb ho ht hl kk => lv_ifnonnull hx hb hd ht2 (kk ls hl)) kk
theorem V.ifnonnullN {off : Int} (hd : decode cc pc = .ok (.ifnonnull off, 3)) (kk : V g R own cc Ts nL QF X k n ws (pc + 3) lv st) : V g R own cc Ts nL QF X k n ws pc lv (.null :: st) := V.lift (fun p e s m args below meth c H locs ls Q hx hb ho ht hl kk => lv_ifnonnullN hx hb hd (kk ls hl)) kk
theorem V.tableIn {dflt lo hi : Int} {offs : Array Int} {len : Nat} {x : Int32} {off : Int} {tgt : Nat} (h1 : ¬ x.toInt < lo) (h2 : ¬ hi < x.toInt) (ho2 : offs[(x.toInt - lo).toNat]? = some off) (hd : decode cc pc = .ok (.tableswitch dflt lo hi offs, len)) (ht2 : (pc : Int) + off = (tgt : Int)) (kk : V g R own cc Ts nL QF X k n ws tgt lv st) : V g R own cc Ts nL QF X k n ws pc lv (.int x :: st) := V.lift (fun p e s m args below meth c H locs ls Q hx hb ho ht hl kk => lv_tableIn hx hb hd h1 h2 ho2 ht2 (kk ls hl)) kk
theorem V.tableOut {dflt lo hi : Int} {offs : Array Int} {len : Nat} {x : Int32} {tgt : Nat} (h1 : x.toInt < lo ∨ hi < x.toInt) (hd : decode cc pc = .ok (.tableswitch dflt lo hi offs, len)) (ht2 : (pc : Int) + dflt = (tgt : Int)) (kk : V g R own cc Ts nL QF X k n ws tgt lv st) : V g R own cc Ts nL QF X k n ws pc lv (.int x :: st) := V.lift (fun p e s m args below meth c H locs ls Q hx hb ho ht hl kk => lv_tableOut hx hb hd h1 ht2 (kk ls hl)) kk
/-! heap rows -/
theorem V.get {C : String} {T : u_T} {N ci i : Nat} {a : Nat} {fs : List Value} {v : Value} (hin : ∀ w ∈ u_ws C T N, w ∈ Ts) (hc : vwCl[ci]? = some (C, T, N)) (q0 f : Nat) (hf : f < N) (hlk : Cond.fieldLink own i (T f).1 (T f).2.1 (T f).2.2.1 ∈ Ts) (he : ws[q0]? = some (a, .inr (ci, fs))) (hv : fs[f]? = some v) (hd : decode cc pc = .ok (.getfield i, 3)) (kk : V g R own cc Ts nL QF X k n ws (pc + 3) lv (v :: st)) : V g R own cc Ts nL QF X k n ws pc lv (.ref a :: st) :=
  fun p e s m args below meth c A hx hb hml ho ht hA hE hX H locs ls hP hK hD hS hl => va_get hx hb ht hin ho hK hP q0 he hc f hf (ht _ hlk) (fun _ h9 => h9) hv hd (kk p e s m args below meth c A hx hb hml ho ht hA hE hX H locs ls hP hK hD hS hl)
theorem V.put {C : String} {T : u_T} {N ci i : Nat} {a : Nat} {fs : List Value} {v : Value} {ty : FieldType} {ws2 : va_W} (hin : ∀ w ∈ u_ws C T N, w ∈ Ts) (ty0 : Nat → FieldType) (hty : ∀ k, k < N → parseFieldDescriptor (T k).2.2.1 = some (ty0 k)) (hnm : ∀ a, a < N → ∀ b, b < N → a ≠ b → (T a).2.1 ≠ (T b).2.1) (hc : vwCl[ci]? = some (C, T, N)) (q0 f : Nat) (hf : f < N) (hlk : Cond.fieldLink own i (T f).1 (T f).2.1 (T f).2.2.1 ∈ Ts) (he : ws[q0]? = some (a, .inr (ci, fs))) (hfin : (T f).2.2.2 = false) (hd0 : parseFieldDescriptor (T f).2.2.1 = some ty) (hn : narrow ty v = v) (hfit : fits ty v = true) (hfl : f < fs.length) (hws : ws.set q0 (a, .inr (ci, fs.set f v)) = ws2) (hd : decode cc pc = .ok (.putfield i, 3)) (kk : V g R own cc Ts nL QF X k n ws2 (pc + 3) lv st) : V g R own cc Ts nL QF X k n ws pc lv (v :: .ref a :: st) :=
  fun p e s m args below meth c A hx hb hml ho ht hA hE hX H locs ls hP hK hD hS hl => va_put hx hb ht hin ty0 hty hnm ho hK hP hD hS q0 he hc f hf (ht _ hlk) (fun _ h9 => h9) hfin hd0 hn hfit hfl hd (fun H1 locs1 hP hD hS => kk p e s m args below meth c A hx hb hml ho ht hA hE hX H1 locs1 ls (hws ▸ hP) hK (hws ▸ hD) hS hl)
theorem V.putF {C : String} {T : u_T} {N ci i : Nat} {a : Nat} {fs : List Value} {v : Value} {ty : FieldType} {ws2 : va_W} (hin : ∀ w ∈ u_ws C T N, w ∈ Ts) (ty0 : Nat → FieldType) (hty : ∀ k, k < N → parseFieldDescriptor (T k).2.2.1 = some (ty0 k)) (hnm : ∀ a, a < N → ∀ b, b < N → a ≠ b → (T a).2.1 ≠ (T b).2.1) (hc : vwCl[ci]? = some (C, T, N)) (q0 f : Nat) (hf : f < N) (hlk : Cond.fieldLink own i (T f).1 (T f).2.1 (T f).2.2.1 ∈ Ts) (he : ws[q0]? = some (a, .inr (ci, fs))) (hfin : (T f).2.2.2 = true) (hdecl : (T f).1 = own) (hXn : ∀ p s m args meth c A, X p s m args meth c A → meth.name = "<init>") (hd0 : parseFieldDescriptor (T f).2.2.1 = some ty) (hn : narrow ty v = v) (hfit : fits ty v = true) (hfl : f < fs.length) (hws : ws.set q0 (a, .inr (ci, fs.set f v)) = ws2) (hd : decode cc pc = .ok (.putfield i, 3)) (kk : V g R own cc Ts nL QF X k n ws2 (pc + 3) lv st) : V g R own cc Ts nL QF X k n ws pc lv (v :: .ref a :: st) :=
  fun p e s m args below meth c A hx hb hml ho ht hA hE hX H locs ls hP hK hD hS hl => va_putF hx hb ht hin ty0 hty hnm ho hK hP hD hS q0 he hc f hf (ht _ hlk) (fun _ h9 => h9) hfin (hXn _ _ _ _ _ _ _ hX) hdecl hd0 hn hfit hfl hd (fun H1 locs1 hP hD hS => kk p e s m args below meth c A hx hb hml ho ht hA hE hX H1 locs1 ls (hws ▸ hP) hK (hws ▸ hD) hS hl)
theorem V.iald {a len : Nat} {f : Nat → Int32} {x : Int32} (q0 j : Nat) (ha : ws[q0]? = some (a, .inl (g.2.2 0, len, .inl f))) (hi : x = nI j) (hj : j < len) (hL : len < 2 ^ 31) (hd : decode cc pc = .ok (.iaload, 1)) (kk : V g R own cc Ts nL QF X k n ws (pc + 1) lv (.int (f j) :: st)) : V g R own cc Ts nL QF X k n ws pc lv (.int x :: .ref a :: st) :=
  fun p e s m args below meth c A hx hb hml ho ht hA hE hX H locs ls hP hK hD hS hl => va_iald hx hb hK hP q0 0 ha rfl (i := x) (by rw [hi]; exact vp_in_nI hj hL) hd (by rw [hi, nI_clamp (by omega)]; exact kk p e s m args below meth c A hx hb hml ho ht hA hE hX H locs ls hP hK hD hS hl)
theorem V.iast {a len : Nat} {f : Nat → Int32} {x v : Int32} {ws2 : va_W} (q0 j : Nat) (ha : ws[q0]? = some (a, .inl (g.2.2 0, len, .inl f))) (hi : x = nI j) (hj : j < len) (hL : len < 2 ^ 31) (hws : ws.set q0 (a, .inl (g.2.2 0, len, .inl (upd f j v))) = ws2) (hd : decode cc pc = .ok (.iastore, 1)) (kk : V g R own cc Ts nL QF X k n ws2 (pc + 1) lv st) : V g R own cc Ts nL QF X k n ws pc lv (.int v :: .int x :: .ref a :: st) := by
  intro p e s m args below meth c A hx hb hml ho ht hA hE hX H locs ls hP hK hD hS hl
  subst hi
  refine va_iast hx hb hK hP hD hS q0 0 ha rfl (vp_in_nI hj hL) hd (fun H1 locs1 hP hD hS => ?_)
  rw [nI_clamp (by omega)] at hP hD
  exact kk p e s m args below meth c A hx hb hml ho ht hA hE hX H1 locs1 ls (hws ▸ hP) hK (hws ▸ hD) hS hl
theorem V.zald {a len : Nat} {f : Nat → Int32} {x : Int32} (q0 j : Nat) (ha : ws[q0]? = some (a, .inl (g.2.2 1, len, .inl f))) (hi : x = nI j) (hj : j < len) (hL : len < 2 ^ 31) (hd : decode cc pc = .ok (.baload, 1)) (kk : V g R own cc Ts nL QF X k n ws (pc + 1) lv (.int (f j) :: st)) : V g R own cc Ts nL QF X k n ws pc lv (.int x :: .ref a :: st) :=
  fun p e s m args below meth c A hx hb hml ho ht hA hE hX H locs ls hP hK hD hS hl => va_zald hx hb hK hP q0 1 ha rfl (i := x) (by rw [hi]; exact vp_in_nI hj hL) hd (by rw [hi, nI_clamp (by omega)]; exact kk p e s m args below meth c A hx hb hml ho ht hA hE hX H locs ls hP hK hD hS hl)
theorem V.zast {a len : Nat} {f : Nat → Int32} {x v : Int32} {ws2 : va_W} (q0 j : Nat) (ha : ws[q0]? = some (a, .inl (g.2.2 1, len, .inl f))) (hi : x = nI j) (hj : j < len) (hL : len < 2 ^ 31) (hv : vp_nar .boolean v = v) (hws : ws.set q0 (a, .inl (g.2.2 1, len, .inl (upd f j v))) = ws2) (hd : decode cc pc = .ok (.bastore, 1)) (kk : V g R own cc Ts nL QF X k n ws2 (pc + 1) lv st) : V g R own cc Ts nL QF X k n ws pc lv (.int v :: .int x :: .ref a :: st) := by
  intro p e s m args below meth c A hx hb hml ho ht hA hE hX H locs ls hP hK hD hS hl
  subst hi
  refine va_zast hx hb hK hP hD hS q0 1 ha rfl (vp_in_nI hj hL) hd (fun H1 locs1 hP hD hS => ?_)
  rw [nI_clamp (by omega), hv] at hP hD
  exact kk p e s m args below meth c A hx hb hml ho ht hA hE hX H1 locs1 ls (hws ▸ hP) hK (hws ▸ hD) hS hl
theorem V.lald {a len : Nat} {f : Nat → Int64} {x : Int32} (q0 j : Nat) (ha : ws[q0]? = some (a, .inl (g.2.2 3, len, .inr (.inl f)))) (hi : x = nI j) (hj : j < len) (hL : len < 2 ^ 31) (hd : decode cc pc = .ok (.laload, 1)) (kk : V g R own cc Ts nL QF X k n ws (pc + 1) lv (.long (f j) :: st)) : V g R own cc Ts nL QF X k n ws pc lv (.int x :: .ref a :: st) :=
  fun p e s m args below meth c A hx hb hml ho ht hA hE hX H locs ls hP hK hD hS hl => va_lald hx hb hK hP q0 3 ha rfl (i := x) (by rw [hi]; exact vp_in_nI hj hL) hd (by rw [hi, nI_clamp (by omega)]; exact kk p e s m args below meth c A hx hb hml ho ht hA hE hX H locs ls hP hK hD hS hl)
theorem V.last {a len : Nat} {f : Nat → Int64} {x : Int32} {v : Int64} {ws2 : va_W} (q0 j : Nat) (ha : ws[q0]? = some (a, .inl (g.2.2 3, len, .inr (.inl f)))) (hi : x = nI j) (hj : j < len) (hL : len < 2 ^ 31) (hws : ws.set q0 (a, .inl (g.2.2 3, len, .inr (.inl (vp_updL f j v)))) = ws2) (hd : decode cc pc = .ok (.lastore, 1)) (kk : V g R own cc Ts nL QF X k n ws2 (pc + 1) lv st) : V g R own cc Ts nL QF X k n ws pc lv (.long v :: .int x :: .ref a :: st) := by
  intro p e s m args below meth c A hx hb hml ho ht hA hE hX H locs ls hP hK hD hS hl
  subst hi
  refine va_last hx hb hK hP hD hS q0 3 ha rfl (vp_in_nI hj hL) hd (fun H1 locs1 hP hD hS => ?_)
  rw [nI_clamp (by omega)] at hP hD
  exact kk p e s m args below meth c A hx hb hml ho ht hA hE hX H1 locs1 ls (hws ▸ hP) hK (hws ▸ hD) hS hl
theorem V.aald {a len : Nat} {f : Nat → Option Nat} {x : Int32} {v : Value} (q0 j : Nat) (ha : ws[q0]? = some (a, .inl (g.2.2 2, len, .inr (.inr (.inr (.inr f)))))) (hi : x = nI j) (hj : j < len) (hL : len < 2 ^ 31) (hv : va_rf (f j) = v) (hd : decode cc pc = .ok (.aaload, 1)) (kk : V g R own cc Ts nL QF X k n ws (pc + 1) lv (v :: st)) : V g R own cc Ts nL QF X k n ws pc lv (.int x :: .ref a :: st) :=
  fun p e s m args below meth c A hx hb hml ho ht hA hE hX H locs ls hP hK hD hS hl => va_aldq hx hb hK hP q0 2 ha rfl (i := x) (by rw [hi]; exact vp_in_nI hj hL) hd (by rw [hi, nI_clamp (by omega), hv]; exact kk p e s m args below meth c A hx hb hml ho ht hA hE hX H locs ls hP hK hD hS hl)
theorem V.aast {a len b ci : Nat} {vs : List Value} {f : Nat → Option Nat} {x : Int32} {ws2 : va_W} (q0 j qk : Nat) (ha : ws[q0]? = some (a, .inl (g.2.2 2, len, .inr (.inr (.inr (.inr f)))))) (hv : ws[qk]? = some (b, .inr (2, vs))) (hi : x = nI j) (hj : j < len) (hL : len < 2 ^ 31) (hws : ws.set q0 (a, .inl (g.2.2 2, len, .inr (.inr (.inr (.inr (va_up f j (some b))))))) = ws2) (hd : decode cc pc = .ok (.aastore, 1)) (kk : V g R own cc Ts nL QF X k n ws2 (pc + 1) lv st) : V g R own cc Ts nL QF X k n ws pc lv (.ref b :: .int x :: .ref a :: st) := by
  intro p e s m args below meth c A hx hb hml ho ht hA hE hX H locs ls hP hK hD hS hl
  subst hi
  refine va_astq hx hb hK hP hD hS q0 2 qk 2 (r := (RX2, TX2, 12)) ha rfl hv rfl (vp_in_nI hj hL) hd (fun H1 locs1 hP hD hS => ?_)
  rw [nI_clamp (by omega)] at hP hD
  exact kk p e s m args below meth c A hx hb hml ho ht hA hE hX H1 locs1 ls (hws ▸ hP) hK (hws ▸ hD) hS hl
theorem V.alen {a : Nat} {x : vp_A} {t : Nat} {ty : FieldType} {v : Int32} (q0 : Nat) (ha : ws[q0]? = some (a, .inl (g.2.2 t, x))) (ht0 : (gT g)[t]? = some (g.2.2 t, ty)) (hv : Int32.ofNat x.1 = v) (hd : decode cc pc = .ok (.arraylength, 1)) (kk : V g R own cc Ts nL QF X k n ws (pc + 1) lv (.int v :: st)) : V g R own cc Ts nL QF X k n ws pc lv (.ref a :: st) :=
  fun p e s m args below meth c A hx hb hml ho ht hA hE hX H locs ls hP hK hD hS hl => va_alen hx hb hK hP q0 t ha ht0 hv hd (kk p e s m args below meth c A hx hb hml ho ht hA hE hX H locs ls hP hK hD hS hl)
theorem V.new {C : String} {T : u_T} {N ci i : Nat} {fs : List Value} (hin : ∀ w ∈ u_ws C T N, w ∈ Ts) (ty : Nat → FieldType) (hty : ∀ k, k < N → parseFieldDescriptor (T k).2.2.1 = some (ty k)) (hcl : Cond.classLink own i C ∈ Ts) (hinst : Cond.instantiable C N ∈ Ts) (hini : Cond.initialized C ∈ Ts) (hc : vwCl[ci]? = some (C, T, N)) (hfs : ∀ j, j < N → defaultValue (ty j) = vp_V fs j) (hk1 : k + 1 ≤ R.cells) (hn1 : n + N ≤ R.slots) (hd : decode cc pc = .ok (.new i, 3)) (kk : ∀ q : Nat, V g R own cc Ts nL QF X (k + 1) (n + N) (ws ++ [(q, .inr (ci, fs))]) (pc + 3) lv (.ref q :: st)) : V g R own cc Ts nL QF X k n ws pc lv st :=
  fun p e s m args below meth c A hx hb hml ho ht hA hE hX H locs ls hP hK hD hS hl => va_new hx hb ht hin ty hty ho (ht _ hcl) (ht _ hinst) (ht _ hini) hK hP hD hS hA hc hfs hk1 hn1 hd (fun q H1 hP hD hS => kk q p e s m args below meth c A hx hb hml ho ht hA hE hX H1 locs ls hP hK hD hS hl)
theorem va_Ku {D : va_G} {cl : List vw_C} {tys : List (ClassId × FieldType)} {U : State} {t : Nat} {c0 cA : ClassId} {ty : FieldType} (h1 : va_K D cl (tys ++ [(cA, ty)]) U) (ht : tys[t]? = some (c0, ty)) (hlt : t < tys.length) : cA = c0 := by
  have a1 := (h1.2 t (c0, ty) (by rw [List.getElem?_append_left hlt]; exact ht)).2
  have a2 := (h1.2 tys.length (cA, ty) (by rw [List.getElem?_append_right (Nat.le_refl _)]; simp)).2
  cases ty with
  | object C =>
    obtain ⟨_, _, _, _, _, b1⟩ := a1
    obtain ⟨_, _, _, _, _, b2⟩ := a2
    exact Option.some.inj (b2.symm.trans b1)
  | _ => exact Option.some.inj (Eq.trans (Eq.symm a2) a1)
theorem V.newa {atype : ArrayType} {ty : FieldType} {x : Int32} {len t : Nat} {a0 : vp_A} (harr : Cond.arrayClass (newarray.typeOf atype) ∈ Ts) (hty : newarray.typeOf atype = ty) (ht0 : (gT g)[t]? = some (g.2.2 t, ty)) (htl : t < 4) (ha : ∀ cA : ClassId, vp_cell cA a0 = arrV cA len (fun _ => defaultValue ty)) (hx0 : ¬ x < 0) (hN : x.toNatClampNeg = len) (hby : len * componentBytes ty ≤ 536870912) (hk1 : k + 1 ≤ R.cells) (hn1 : n + len ≤ R.slots) (hd : decode cc pc = .ok (.newarray atype, 2)) (kk : ∀ q : Nat, V g R own cc Ts nL QF X (k + 1) (n + len) (ws ++ [(q, .inl (g.2.2 t, a0))]) (pc + 2) lv (.ref q :: st)) : V g R own cc Ts nL QF X k n ws pc lv (.int x :: st) :=
  fun p e s m args below meth c A hx hb hml ho ht hA hE hX H locs ls hP hK hD hS hl => va_newa hx hb (ht _ harr) hty hK hP hD hS hA ha hx0 hN hby hk1 hn1 hd (fun q cA H1 hK1 hP hD hS => by
    have e9 := va_Ku hK1 ht0 htl
    subst e9
    exact kk q p e s m args below meth c A hx hb hml ho ht hA hE hX H1 locs ls hP hK hD hS hl)
/-! returns -/
theorem QFr.q {g : GT} {rm : Room} {Q : Option Value → va_W → Prop} : ∀ (below : List Frame) (args : Array Value) (s : State) (A : Nat → Prop) (t : State), MQ below (QU g Q A) args s rm.cells rm.slots A t → QFr g rm Q below args s A t := fun _ _ _ _ _ h => h
theorem QFx.q {g : GT} {rm : Room} {Q : Option Value → va_W → Prop} {XX : String → va_W → Prop} : ∀ (below : List Frame) (args : Array Value) (s : State) (A : Nat → Prop) (t : State), MQ below (QU g Q A) args s rm.cells rm.slots A t → QFx g rm Q XX below args s A t := by
  intro below args s A t h
  obtain ⟨o, b1, b2, b3, b4⟩ := h
  exact ⟨o, b1, b2, Or.inl ⟨b3, b4⟩⟩
theorem XM.r {ret : Option FieldType} {nm : String} : ∀ (p : Program) (s : State) (m : MethodId) (args : Array Value) (meth : Method) (c : Code) (A : Nat → Prop), XM ret nm p s m args meth c A → meth.sig.returnType = ret ∧ meth.locks = false := fun _ _ _ _ _ _ _ h => ⟨h.1, h.2.1⟩
theorem XMx.r {ret : Option FieldType} {nm : String} : ∀ (p : Program) (s : State) (m : MethodId) (args : Array Value) (meth : Method) (c : Code) (A : Nat → Prop), XMx ret nm p s m args meth c A → meth.sig.returnType = ret ∧ meth.locks = false := fun _ _ _ _ _ _ _ h => ⟨h.1, h.2.1⟩
theorem XMh.r {ret : Option FieldType} {hh : List (Nat × Nat × Nat × Nat)} : ∀ (p : Program) (s : State) (m : MethodId) (args : Array Value) (meth : Method) (c : Code) (A : Nat → Prop), XMh ret hh p s m args meth c A → meth.sig.returnType = ret ∧ meth.locks = false := fun _ _ _ _ _ _ _ h => ⟨h.1, h.2.1⟩
theorem XM.nm {ret : Option FieldType} : ∀ (p : Program) (s : State) (m : MethodId) (args : Array Value) (meth : Method) (c : Code) (A : Nat → Prop), XM ret "<init>" p s m args meth c A → meth.name = "<init>" := fun _ _ _ _ _ _ _ h => h.2.2
abbrev QFok (g : GT) (rm : Room) (Q : Option Value → va_W → Prop) (QF : QT) : Prop := ∀ (below : List Frame) (args : Array Value) (s : State) (A : Nat → Prop) (t : State), MQ below (QU g Q A) args s rm.cells rm.slots A t → QF below args s A t
abbrev XRok (ret : Option FieldType) (X : XT) : Prop := ∀ (p : Program) (s : State) (m : MethodId) (args : Array Value) (meth : Method) (c : Code) (A : Nat → Prop), X p s m args meth c A → meth.sig.returnType = ret ∧ meth.locks = false
theorem W.post {p : Program} {l : Launch} {e : Env} {s : State} {m : MethodId} {args : Array Value} {below : List Frame} {meth : Method} {c : Code} {H : Heap} {locs : List Loc} {Q Q2 : State → Prop} {f : JFrame} (h : ∀ t, Q t → Q2 t) (kk : W p l e R s m args below meth c H locs k n Q f) : W p l e R s m args below meth c H locs k n Q2 f := fun T hT Y => (kk T hT Y).elim fun t a => ⟨t, a.1, h t a.2⟩
theorem V.iret {rm : Room} {Q : Option Value → va_W → Prop} {x : Int32} (hq : QFok g rm Q QF) (hr : XRok (some .int) X) (hk : k ≤ rm.cells) (hn : n ≤ rm.slots) (hQ : Q (some (.int x)) ws) (hd : decode cc pc = .ok (.ireturn, 1)) : V g R own cc Ts nL QF X k n ws pc lv [.int x] :=
  fun p e s m args below meth c A hx hb hml ho ht hA hE hX H locs ls hP hK hD hS hl => W.post (hq below args s A) (W.widen hk hn (W.iret hx hb (hr _ _ _ _ _ _ _ hX).1 (fun t ht2 _ => ⟨⟨_, ws, rfl, hQ, by rw [ht2]; exact hP, hD⟩, hS.F ht2⟩) hS.2.2 hd (hlocks := (hr _ _ _ _ _ _ _ hX).2)))
theorem V.zret {rm : Room} {Q : Option Value → va_W → Prop} {x : Int32} {ty : FieldType} (hq : QFok g rm Q QF) (hr : XRok (some ty) X) (hnar : narrow ty (.int x) = .int x) (hk : k ≤ rm.cells) (hn : n ≤ rm.slots) (hQ : Q (some (.int x)) ws) (hd : decode cc pc = .ok (.ireturn, 1)) : V g R own cc Ts nL QF X k n ws pc lv [.int x] :=
  fun p e s m args below meth c A hx hb hml ho ht hA hE hX H locs ls hP hK hD hS hl => W.post (hq below args s A) (W.widen hk hn (W.zret hx hb (hr _ _ _ _ _ _ _ hX).1 hnar (fun t ht2 _ => ⟨⟨_, ws, rfl, hQ, by rw [ht2]; exact hP, hD⟩, hS.F ht2⟩) hS.2.2 hd (hlocks := (hr _ _ _ _ _ _ _ hX).2)))
theorem V.vret {rm : Room} {Q : Option Value → va_W → Prop} (hq : QFok g rm Q QF) (hr : XRok none X) (hk : k ≤ rm.cells) (hn : n ≤ rm.slots) (hQ : Q none ws) (hd : decode cc pc = .ok (.return_, 1)) : V g R own cc Ts nL QF X k n ws pc lv [] :=
  fun p e s m args below meth c A hx hb hml ho ht hA hE hX H locs ls hP hK hD hS hl => W.post (hq below args s A) (W.widen hk hn (W.vret hx hb (hr _ _ _ _ _ _ _ hX).1 (fun t ht2 _ => ⟨⟨_, ws, rfl, hQ, by rw [ht2]; exact hP, hD⟩, hS.F ht2⟩) hS.2.2 hd (hlocks := (hr _ _ _ _ _ _ _ hX).2)))
theorem V.lret {rm : Room} {Q : Option Value → va_W → Prop} {x : Int64} (hq : QFok g rm Q QF) (hr : XRok (some .long) X) (hk : k ≤ rm.cells) (hn : n ≤ rm.slots) (hQ : Q (some (.long x)) ws) (hd : decode cc pc = .ok (.lreturn, 1)) : V g R own cc Ts nL QF X k n ws pc lv [.long x] :=
  fun p e s m args below meth c A hx hb hml ho ht hA hE hX H locs ls hP hK hD hS hl => W.post (hq below args s A) (W.widen hk hn (W.lret hx hb (hr _ _ _ _ _ _ _ hX).1 (fun t ht2 _ => ⟨⟨_, ws, rfl, hQ, by rw [ht2]; exact hP, hD⟩, hS.F ht2⟩) hS.2.2 hd (hlocks := (hr _ _ _ _ _ _ _ hX).2)))
theorem V.dret {rm : Room} {Q : Option Value → va_W → Prop} {x : UInt64} (hq : QFok g rm Q QF) (hr : XRok (some .double) X) (hk : k ≤ rm.cells) (hn : n ≤ rm.slots) (hQ : Q (some (.double x)) ws) (hd : decode cc pc = .ok (.dreturn, 1)) : V g R own cc Ts nL QF X k n ws pc lv [.double x] :=
  fun p e s m args below meth c A hx hb hml ho ht hA hE hX H locs ls hP hK hD hS hl => W.post (hq below args s A) (W.widen hk hn (W.dret hx hb (hr _ _ _ _ _ _ _ hX).1 (fun t ht2 _ => ⟨⟨_, ws, rfl, hQ, by rw [ht2]; exact hP, hD⟩, hS.F ht2⟩) hS.2.2 hd (hlocks := (hr _ _ _ _ _ _ _ hX).2)))
/-! calls -/
theorem PU.blind {g : GT} {av : List Value} {W0 : va_W} {sz : Nat} : FrameBlind (PU g av W0 sz) := fun a U gg mk h => by
  obtain ⟨h0, h1, h2, h3, h4, h5⟩ := h
  exact ⟨h0, h1, h2, va_K.moved (u := U) (U := U.calling gg mk a) (Vm.Alike.refl U.vm) h3, h4, h5.calling gg mk a⟩
theorem is_W0 {ws W0 : va_W} {is : List Nat} (hC : is.map (fun i => ws[i]?) = W0.map some) : is.filterMap (fun i => ws[i]?) = W0 := by
  have h1 : is.filterMap (fun i => ws[i]?) = (is.map (fun i => ws[i]?)).filterMap id := by rw [List.filterMap_map]; rfl
  rw [h1, hC, List.filterMap_map]
  simp
theorem PU.at {g : GT} {s U : State} {H : Heap} {locs : List Loc} {A : Nat → Prop} {W0 : va_W} {av : List Value} {is : List Nat} (hA : ∀ q : Nat, s.heap.size ≤ q → A q) (hE : EG A s s.heap) (hP : va_P g.2.1 vwCl ws H) (hK : va_K g.2.1 vwCl (gT g) s) (hD : va_D A ws) (hS : va_S A s.heap H locs) (hnd : va_nd is = true) (hC : is.map (fun i => ws[i]?) = W0.map some) (hU : U.heap = H) (hW : s.WarmedH U.vm) : PU g av W0 H.size av.toArray U := by
  subst hU
  exact ⟨rfl, rfl, hP.sub is (is_W0 hC), va_K.moved hW.alike hK, (hD.sub is hnd hC).weaken (fun _ _ _ _ => trivial), hE.go hW hS (va_free hD hS hA is hC)⟩
theorem va_callU {p : Program} {l : Launch} {e : Env} {s : State} {m : MethodId} {args : Array Value} {below : List Frame} {meth : Method} {c : Code} {H H0 : Heap} {locs : List Loc} {mc ms : Nat} {QQ : State → Prop} {Q : Option Value → va_W → Prop} {A0 A1 : Nat → Prop} {a : Array Value} {ls : Array Slot} {st0 : List Value} {free : Addr → Prop}
    (hr : va_Run p l e R s m args below meth c H locs k n mc ms (F0 m pc ls st0) rest (QU g Q A1 a) free) (hS : va_S A0 H0 H locs) (hA : ∀ q, q < H.size → A1 q → A0 q) (hf : ∀ q, free q → A0 q)
    (kk : ∀ (v : Option Value) (w : va_W) (H1 : Heap) (locs1 : List Loc), Q v w → va_P g.2.1 vwCl w H1 → va_D A1 w → (∀ q : Nat, q < H.size → ¬ A1 q → H1[q]? = H[q]?) → va_S A0 H0 H1 locs1 → W p l e R s m args below meth c H1 locs1 (k + mc) (n + ms) QQ (F0 m (pc + 3) ls (v.toList ++ rest))) : W p l e R s m args below meth c H locs k n QQ (F0 m pc ls st0) := by
  intro T hT X
  obtain ⟨v, st₀, t, T', L, h0, X', hL, e1, e2, ⟨⟨v2, w, hv, hq, hp, hd⟩, hz, hk⟩, st⟩ := hr T hT X
  cases hv
  rw [h0] at hz hk
  obtain ⟨t2, a1, b1⟩ := kk v w T'.heap (locs ++ L) hq (by rw [e1]; exact hp) hd (fun q h1 h2 => by rw [e1]; exact hk q h1 h2)
    ⟨Nat.le_trans hS.1 (by rw [e1]; exact hz), fun q h1 h2 => by rw [e1, hk q (Nat.lt_of_lt_of_le h1 hS.1) (fun z => h2 (hA q (Nat.lt_of_lt_of_le h1 hS.1) z))]; exact hS.2.1 q h1 h2, fun q hq => by
      rcases List.mem_append.mp hq with h | h
      · exact hS.2.2 q h
      · exact hf _ (hL q h)⟩ T' rfl X'
  exact ⟨t2, st t2 a1, b1⟩
theorem V.callV {y : MethodName} {wy wy' : List Cond} {rm : Room} {W0 : va_W} {Q : Option Value → va_W → Prop} {C : String} {T : u_T} {N ci i maxL b : Nat} {bytes : ByteArray} {ret : Option FieldType} {fs : List Value} (As rest : List Value) (hM : UC g y wy rm (.ref b :: As) W0 Q) (hG : GoodIn Ts (wsV own i C y wy)) (hw : wy = Cond.code y bytes maxL ret :: wy')
    (hd1 : y.cls = C ∧ y.cls ≠ "java/lang/invoke/MethodHandle" ∧ y.cls ≠ "java/lang/invoke/VarHandle" ∧ (parseMethodDescriptor y.desc).map (fun d => d.parameters.length) = some As.length) (hRm : rm.frames + 1 ≤ R.frames ∧ 8 + (maxL + 11) + rm.locals ≤ R.locals) (hc : vwCl[ci]? = some (C, T, N)) (q0 : Nat) (he : ws[q0]? = some (b, .inr (ci, fs)))
    (is : List Nat) (hnd : va_nd is = true) (hC : is.map (fun i => ws[i]?) = W0.map some) (hst : st = As.reverse ++ .ref b :: rest) (hcat : (rest.map fun v => v.category).sum ≤ 8) (hf : k + rm.cells ≤ R.cells ∧ n + rm.slots ≤ R.slots) (hd : decode cc pc = .ok (.invokevirtual i, 3)) (hQa : ∀ v w, Q v w → (w.take is.length).map Prod.fst = W0.map Prod.fst)
    (kk : ∀ v w, Q v w → V g R own cc Ts nL QF X (k + rm.cells) (n + rm.slots) (insW ws is w) (pc + 3) lv (v.toList ++ rest)) : V g R own cc Ts nL QF X k n ws pc lv st := by
  intro p e s m args below meth c A hx hb hml ho ht hA hE hX H locs ls hP hK hD hS hl
  have hF := va_free hD hS hA is hC
  refine va_callU (va_runV (As := As) (rest := rest) ⟨hx, hb, hml, ho, ht⟩ (hM H.size) (cwV As.length ht hG hw rfl rfl hd1 hRm) ⟨PU.blind, va_recv hK hP hc he, fun U hU hW => PU.at hA hE hP hK hD hS hnd hC hU hW⟩ rfl rfl hl.1 hst (lv_room hcat) hd hf) hS (fun q _ h => hF q h) hF (fun v w H1 locs1 hq hP1 hD1 hk1 hS => ?_)
  obtain ⟨hP2, hD2⟩ := insW_ok hP hD is hC hk1 hF hP1 hD1 (hQa v w hq)
  exact kk v w hq p e s m args below meth c A hx hb hml ho ht hA hE hX H1 locs1 ls hP2 hK hD2 hS hl
theorem V.callS {y : MethodName} {wy wy' : List Cond} {rm : Room} {W0 : va_W} {Q : Option Value → va_W → Prop} {i maxL : Nat} {bytes : ByteArray} {ret : Option FieldType} (As rest : List Value) (hM : UC g y wy rm As W0 Q) (hG : GoodIn Ts (va_wsS own i y wy)) (hw : wy = Cond.code y bytes maxL ret :: wy')
    (hd1 : y.cls ≠ "java/lang/invoke/MethodHandle" ∧ y.cls ≠ "java/lang/invoke/VarHandle" ∧ (parseMethodDescriptor y.desc).map (fun d => d.parameters.length) = some As.length) (hRm : rm.frames + 1 ≤ R.frames ∧ 8 + (maxL + 11) + rm.locals ≤ R.locals)
    (is : List Nat) (hnd : va_nd is = true) (hC : is.map (fun i => ws[i]?) = W0.map some) (hst : st = As.reverse ++ rest) (hcat : (rest.map fun v => v.category).sum ≤ 8) (hf : k + rm.cells ≤ R.cells ∧ n + rm.slots ≤ R.slots) (hd : decode cc pc = .ok (.invokestatic i, 3)) (hQa : ∀ v w, Q v w → (w.take is.length).map Prod.fst = W0.map Prod.fst)
    (kk : ∀ v w, Q v w → V g R own cc Ts nL QF X (k + rm.cells) (n + rm.slots) (insW ws is w) (pc + 3) lv (v.toList ++ rest)) : V g R own cc Ts nL QF X k n ws pc lv st := by
  intro p e s m args below meth c A hx hb hml ho ht hA hE hX H locs ls hP hK hD hS hl
  have hF := va_free hD hS hA is hC
  refine va_callU (va_runS (As := As) (rest := rest) ⟨hx, hb, hml, ho, ht⟩ (hM H.size) (va_cwS As.length ht hG hw rfl rfl hd1 hRm) ⟨PU.blind, fun U hU hW => PU.at hA hE hP hK hD hS hnd hC hU hW⟩ rfl rfl hl.1 hst (lv_room hcat) hd hf) hS (fun q _ h => hF q h) hF (fun v w H1 locs1 hq hP1 hD1 hk1 hS => ?_)
  obtain ⟨hP2, hD2⟩ := insW_ok hP hD is hC hk1 hF hP1 hD1 (hQa v w hq)
  exact kk v w hq p e s m args below meth c A hx hb hml ho ht hA hE hX H1 locs1 ls hP2 hK hD2 hS hl
theorem V.callI {y : MethodName} {wy wy' : List Cond} {rm : Room} {W0 : va_W} {Q : Option Value → va_W → Prop} {i maxL b : Nat} {bytes : ByteArray} (As rest : List Value) (hM : UC g y wy rm (.ref b :: As) W0 Q) (hG : GoodIn Ts wy) (hw : wy = Cond.code y bytes maxL none :: wy') (hini : Cond.initialized y.cls ∈ Ts) (hlk : Cond.methodLink own i y ∈ Ts) (hins : Cond.instanceMethod y ∈ Ts) (hy1 : y.name = "<init>")
    (hd1 : y.cls ≠ "java/lang/invoke/MethodHandle" ∧ y.cls ≠ "java/lang/invoke/VarHandle" ∧ (parseMethodDescriptor y.desc).map (fun d => d.parameters.length) = some As.length) (hRm : rm.frames + 1 ≤ R.frames ∧ 8 + (maxL + 11) + rm.locals ≤ R.locals)
    (is : List Nat) (hnd : va_nd is = true) (hC : is.map (fun i => ws[i]?) = W0.map some) (hst : st = As.reverse ++ .ref b :: rest) (hcat : (rest.map fun v => v.category).sum ≤ 8) (hf : k + rm.cells ≤ R.cells ∧ n + rm.slots ≤ R.slots) (hd : decode cc pc = .ok (.invokespecial i, 3)) (hQa : ∀ v w, Q v w → (w.take is.length).map Prod.fst = W0.map Prod.fst)
    (kk : ∀ v w, Q v w → V g R own cc Ts nL QF X (k + rm.cells) (n + rm.slots) (insW ws is w) (pc + 3) lv (v.toList ++ rest)) : V g R own cc Ts nL QF X k n ws pc lv st := by
  intro p e s m args below meth c A hx hb hml ho ht hA hE hX H locs ls hP hK hD hS hl
  have hF := va_free hD hS hA is hC
  refine va_callU (va_runI (As := As) (rest := rest) ⟨hx, hb, hml, ho, ht⟩ (hM H.size) (cwI As.length ht hG hw rfl rfl (ht _ hini) (ht _ hlk) (ht _ hins) hy1 hd1 hRm) ⟨PU.blind, fun U hU hW => PU.at hA hE hP hK hD hS hnd hC hU hW⟩ rfl rfl hl.1 hst (lv_room hcat) hd hf) hS (fun q _ h => hF q h) hF (fun v w H1 locs1 hq hP1 hD1 hk1 hS => ?_)
  obtain ⟨hP2, hD2⟩ := insW_ok hP hD is hC hk1 hF hP1 hD1 (hQa v w hq)
  exact kk v w hq p e s m args below meth c A hx hb hml ho ht hA hE hX H1 locs1 ls hP2 hK hD2 hS hl
/-- a contract that says answer and world behind outright -/
def Qf (rv : Option Value) (w1 : va_W) : Option Value → va_W → Prop := fun v w => v = rv ∧ w = w1
theorem V.callVf {y : MethodName} {wy wy' : List Cond} {rm : Room} {W0 w1 ws2 : va_W} {rv : Option Value} {C : String} {T : u_T} {N ci i maxL b k2 n2 : Nat} {bytes : ByteArray} {ret : Option FieldType} {fs : List Value} {st2 : List Value} (As rest : List Value) (hM : UC g y wy rm (.ref b :: As) W0 (Qf rv w1)) (hG : GoodIn Ts (wsV own i C y wy)) (hw : wy = Cond.code y bytes maxL ret :: wy')
    (hd1 : y.cls = C ∧ y.cls ≠ "java/lang/invoke/MethodHandle" ∧ y.cls ≠ "java/lang/invoke/VarHandle" ∧ (parseMethodDescriptor y.desc).map (fun d => d.parameters.length) = some As.length) (hRm : rm.frames + 1 ≤ R.frames ∧ 8 + (maxL + 11) + rm.locals ≤ R.locals) (hc : vwCl[ci]? = some (C, T, N)) (q0 : Nat) (he : ws[q0]? = some (b, .inr (ci, fs)))
    (is : List Nat) (hnd : va_nd is = true) (hC : is.map (fun i => ws[i]?) = W0.map some) (hst : st = As.reverse ++ .ref b :: rest) (hcat : (rest.map fun v => v.category).sum ≤ 8) (hf : k + rm.cells ≤ R.cells ∧ n + rm.slots ≤ R.slots) (hd : decode cc pc = .ok (.invokevirtual i, 3))
    (hfst : (w1.take is.length).map Prod.fst = W0.map Prod.fst) (hins : insW ws is w1 = ws2) (hrv : rv.toList ++ rest = st2) (hk2 : k + rm.cells = k2) (hn2 : n + rm.slots = n2) (kk : V g R own cc Ts nL QF X k2 n2 ws2 (pc + 3) lv st2) : V g R own cc Ts nL QF X k n ws pc lv st := by
  refine V.callV As rest hM hG hw hd1 hRm hc q0 he is hnd hC hst hcat hf hd (fun v w h => by rw [h.2]; exact hfst) (fun v w h => ?_)
  obtain ⟨rfl, rfl⟩ := h
  rw [hins, hrv, hk2, hn2]
  exact kk
theorem V.callSf {y : MethodName} {wy wy' : List Cond} {rm : Room} {W0 w1 ws2 : va_W} {rv : Option Value} {i maxL k2 n2 : Nat} {bytes : ByteArray} {ret : Option FieldType} {st2 : List Value} (As rest : List Value) (hM : UC g y wy rm As W0 (Qf rv w1)) (hG : GoodIn Ts (va_wsS own i y wy)) (hw : wy = Cond.code y bytes maxL ret :: wy')
    (hd1 : y.cls ≠ "java/lang/invoke/MethodHandle" ∧ y.cls ≠ "java/lang/invoke/VarHandle" ∧ (parseMethodDescriptor y.desc).map (fun d => d.parameters.length) = some As.length) (hRm : rm.frames + 1 ≤ R.frames ∧ 8 + (maxL + 11) + rm.locals ≤ R.locals)
    (is : List Nat) (hnd : va_nd is = true) (hC : is.map (fun i => ws[i]?) = W0.map some) (hst : st = As.reverse ++ rest) (hcat : (rest.map fun v => v.category).sum ≤ 8) (hf : k + rm.cells ≤ R.cells ∧ n + rm.slots ≤ R.slots) (hd : decode cc pc = .ok (.invokestatic i, 3))
    (hfst : (w1.take is.length).map Prod.fst = W0.map Prod.fst) (hins : insW ws is w1 = ws2) (hrv : rv.toList ++ rest = st2) (hk2 : k + rm.cells = k2) (hn2 : n + rm.slots = n2) (kk : V g R own cc Ts nL QF X k2 n2 ws2 (pc + 3) lv st2) : V g R own cc Ts nL QF X k n ws pc lv st := by
  refine V.callS As rest hM hG hw hd1 hRm is hnd hC hst hcat hf hd (fun v w h => by rw [h.2]; exact hfst) (fun v w h => ?_)
  obtain ⟨rfl, rfl⟩ := h
  rw [hins, hrv, hk2, hn2]
  exact kk
theorem UC.post {y : MethodName} {wy : List Cond} {rm : Room} {av : List Value} {W0 : va_W} {Q Q2 : Option Value → va_W → Prop} (h : UC g y wy rm av W0 Q) (hq : ∀ v w, Q v w → Q2 v w) : UC g y wy rm av W0 Q2 := fun sz => MetFree.mono (h sz) (fun _ _ q => q) (fun _ _ _ _ _ q => q) (fun _ _ _ _ _ q => by
  obtain ⟨⟨⟨v, w, h1, h2, h3⟩, h4⟩, h5⟩ := q
  exact ⟨⟨⟨v, w, h1, hq v w h2, h3⟩, h4⟩, h5⟩)
theorem UX.toUC {y : MethodName} {wy : List Cond} {rm : Room} {av : List Value} {W0 : va_W} {Q : Option Value → va_W → Prop} (h : UX g y wy rm av W0 Q (fun _ _ => False)) : UC g y wy rm av W0 Q := fun sz => MetFree.mono (h sz) (fun _ _ q => q) (fun _ _ _ _ _ q => q) (fun _ _ _ _ _ q => by
  rcases q with q | ⟨q9, _, E, ce, L, ⟨⟨w, hw, _⟩, _⟩, _⟩
  · exact q
  · exact hw.elim)
/-! the JDK's own -/
theorem V.mabs {i : Nat} {x : Int32} (h1 : Cond.methodLink own i Lib.Math.abs.name ∈ Ts) (h2 : Cond.static Lib.Math.abs.name ∈ Ts) (h3 : Cond.initialized "java/lang/Math" ∈ Ts) (h4 : Cond.code Lib.Math.abs.name Lib.Math.abs.code 1 (some .int) ∈ Ts) (hfr : 1 ≤ R.frames) (hlo : (st.map fun v => v.category).sum + 13 ≤ R.locals) (hk1 : k ≤ R.cells) (hn1 : n ≤ R.slots) (hd : decode cc pc = .ok (.invokestatic i, 3)) (kk : V g R own cc Ts nL QF X k n ws (pc + 3) lv (.int (if 0 ≤ x then x else 0 - x) :: st)) : V g R own cc Ts nL QF X k n ws pc lv (.int x :: st) :=
  fun p e s m args below meth c A hx hb hml ho ht hA hE hX H locs ls hP hK hD hS hl => va_mabs hx hb (hml.trans hl.1.symm) ho (ht _ h1) (ht _ h2) (ht _ h3) (ht _ h4) hfr hlo hk1 hn1 hd (kk p e s m args below meth c A hx hb hml ho ht hA hE hX H locs ls hP hK hD hS hl)
theorem V.mmax {i : Nat} {x y : Int32} (h1 : Cond.methodLink own i Lib.Math.max.name ∈ Ts) (h2 : Cond.static Lib.Math.max.name ∈ Ts) (h3 : Cond.initialized "java/lang/Math" ∈ Ts) (h4 : Cond.code Lib.Math.max.name Lib.Math.max.code 2 (some .int) ∈ Ts) (hfr : 1 ≤ R.frames) (hlo : (st.map fun v => v.category).sum + 13 ≤ R.locals) (hk1 : k ≤ R.cells) (hn1 : n ≤ R.slots) (hd : decode cc pc = .ok (.invokestatic i, 3)) (kk : V g R own cc Ts nL QF X k n ws (pc + 3) lv (.int (if x < y then y else x) :: st)) : V g R own cc Ts nL QF X k n ws pc lv (.int y :: .int x :: st) :=
  fun p e s m args below meth c A hx hb hml ho ht hA hE hX H locs ls hP hK hD hS hl => va_mmax hx hb (hml.trans hl.1.symm) ho (ht _ h1) (ht _ h2) (ht _ h3) (ht _ h4) hfr hlo hk1 hn1 hd (kk p e s m args below meth c A hx hb hml ho ht hA hE hX H locs ls hP hK hD hS hl)
theorem V.mmin {i : Nat} {x y : Int32} (h1 : Cond.methodLink own i Lib.Math.min.name ∈ Ts) (h2 : Cond.static Lib.Math.min.name ∈ Ts) (h3 : Cond.initialized "java/lang/Math" ∈ Ts) (h4 : Cond.code Lib.Math.min.name Lib.Math.min.code 2 (some .int) ∈ Ts) (hfr : 1 ≤ R.frames) (hlo : (st.map fun v => v.category).sum + 13 ≤ R.locals) (hk1 : k ≤ R.cells) (hn1 : n ≤ R.slots) (hd : decode cc pc = .ok (.invokestatic i, 3)) (kk : V g R own cc Ts nL QF X k n ws (pc + 3) lv (.int (if y < x then y else x) :: st)) : V g R own cc Ts nL QF X k n ws pc lv (.int y :: .int x :: st) :=
  fun p e s m args below meth c A hx hb hml ho ht hA hE hX H locs ls hP hK hD hS hl => va_mmin hx hb (hml.trans hl.1.symm) ho (ht _ h1) (ht _ h2) (ht _ h3) (ht _ h4) hfr hlo hk1 hn1 hd (kk p e s m args below meth c A hx hb hml ho ht hA hE hX H locs ls hP hK hD hS hl)
theorem V.copyi {i a0 a1 n0 n1 j : Nat} {f h : Nat → Int32} {x : Int32} {ws2 : va_W} (h1 : Cond.methodLink own i arraycopyName ∈ Ts) (h2 : Cond.native arraycopyName ∈ Ts) (h3 : Cond.static arraycopyName ∈ Ts) (h4 : Cond.initialized "java/lang/System" ∈ Ts) (q0 q1 : Nat) (ha0 : ws[q0]? = some (a0, .inl (g.2.2 0, n0, .inl f))) (ha1 : ws[q1]? = some (a1, .inl (g.2.2 0, n1, .inl h))) (hx0 : x = nI j) (hj : j < 2 ^ 31) (hj0 : j ≤ n0) (hj1 : j ≤ n1) (hfr : 1 ≤ R.frames) (hlo : (st.map fun v => v.category).sum + (nativeFrameWords "java/lang/System" "arraycopy" 5 + 11) ≤ R.locals) (hws : ws.set q1 (a1, .inl (g.2.2 0, n1, .inl (va_cpy f h 0 0 j))) = ws2) (hd : decode cc pc = .ok (.invokestatic i, 3)) (kk : V g R own cc Ts nL QF X k n ws2 (pc + 3) lv st) : V g R own cc Ts nL QF X k n ws pc lv (.int x :: .int 0 :: .ref a1 :: .int 0 :: .ref a0 :: st) := by
  intro p e s m args below meth c A hx hb hml ho ht hA hE hX H locs ls hP hK hD hS hl
  subst hx0
  have hc := nI_clamp hj
  refine va_copyi hx hb (hml.trans hl.1.symm) ho (ht _ h1) (ht _ h2) (ht _ h3) (ht _ h4) hK hP hD hS q0 q1 0 0 ha0 ha1 rfl rfl rfl (by decide) (by decide) (nI_pos hj) (by rw [hc]; simpa using hj0) (by rw [hc]; simpa using hj1) (fun _ _ => rfl) hfr hlo hd (fun H1 locs1 hP hD hS => ?_)
  rw [hc] at hP hD
  exact kk p e s m args below meth c A hx hb hml ho ht hA hE hX H1 locs1 ls (hws ▸ hP) hK (hws ▸ hD) hS hl
theorem V.objInit {i a : Nat} (h1 : Cond.methodLink own i objectInit ∈ Ts) (h2 : Cond.instanceMethod objectInit ∈ Ts) (h3 : Cond.code objectInit ⟨#[0xb1]⟩ 1 none ∈ Ts) (hfr : 1 ≤ R.frames) (hlo : 12 ≤ R.locals) (hd : decode cc pc = .ok (.invokespecial i, 3)) (kk : V g R own cc Ts nL QF X k n ws (pc + 3) lv []) : V g R own cc Ts nL QF X k n ws pc lv [.ref a] :=
  fun p e s m args below meth c A hx hb hml ho ht hA hE hX H locs ls hP hK hD hS hl => W.objInit hx hb ho (ht _ h1) (ht _ h2) (ht _ h3) rfl (by rw [hml]; exact hl.1) rfl hd hfr hlo (W.eq (g2 := F0 m (pc + 3) ls []) rfl (kk p e s m args below meth c A hx hb hml ho ht hA hE hX H locs ls hP hK hD hS hl))
end KV
end
section
/-! throws, over V -/
def kbG : List Cond := kdG.map (fun x => .declares x) ++ kcG.map (fun x => .castable x x)
def vx_gd (ic : Nat) (X : String) : Bool := (vx_atS RX5 ic X ["java/lang/RuntimeException", "java/lang/Exception"]).all (fun w => vx_ot w && (goodWord w || decide (w ∈ kbG)))
theorem vx_gd1 : vx_gd 52 "java/lang/IllegalStateException" = true := by decide +kernel
theorem vx_gd2 : vx_gd 140 "java/lang/IllegalArgumentException" = true := by decide +kernel
theorem vx_gd3 : vx_gd 163 "java/lang/IndexOutOfBoundsException" = true := by decide +kernel
theorem kb_at {A : Nat → Prop} {s : State} {args : Array Value} (h : EG A s s.heap) : ∀ w ∈ kbG, w.before args s = true := by
  intro w hw
  rcases List.mem_append.mp hw with hw | hw
  · obtain ⟨x, hx, rfl⟩ := List.mem_map.mp hw
    exact va_Nw.use rfl (h.2.2.2.2.2.2.1 x hx)
  · obtain ⟨x, hx, rfl⟩ := List.mem_map.mp hw
    exact va_Nw.use rfl (h.2.2.2.2.2.2.2.1 x hx)
theorem vx_all {args : Array Value} {s : State} {A : Nat → Prop} {ic : Nat} {X : String} {Ts : List Cond} (hE : EG A s s.heap) (ht : ∀ w ∈ Ts, w.before args s = true) (h0 : vx_gd ic X = true) (h : ∀ w ∈ (vx_atS RX5 ic X ["java/lang/RuntimeException", "java/lang/Exception"]).filter goodWord, w ∈ Ts) : ∀ w ∈ vx_atS RX5 ic X ["java/lang/RuntimeException", "java/lang/Exception"], w.before args s = true ∧ vx_ot w = true := by
  intro w hw
  have h1 := List.all_eq_true.mp h0 w hw
  simp only [Bool.and_eq_true, Bool.or_eq_true, decide_eq_true_eq] at h1
  refine ⟨?_, h1.1⟩
  rcases h1.2 with hg | hg
  · exact ht w (h w (List.mem_filter.mpr ⟨hw, hg⟩))
  · exact kb_at hE w hg
section KX
variable {g : GT} {R : Room} {own : String} {cc : ByteArray} {Ts : List Cond} {nL : Nat} {QF : QT} {X : XT} {k n : Nat} {ws : va_W} {pc : Nat} {lv : List (Nat × Value)} {st rest : List Value}
theorem vx_callU {p : Program} {l : Launch} {e : Env} {s : State} {m : MethodId} {args : Array Value} {below : List Frame} {meth : Method} {c : Code} {H H0 : Heap} {locs : List Loc} {mc ms : Nat} {QQ : State → Prop} {Q : Option Value → va_W → Prop} {XX : String → va_W → Prop} {A0 A1 : Nat → Prop} {a : Array Value} {ls : Array Slot} {st0 : List Value} {free : Addr → Prop}
    (hr : vx_Run p l e R s m args below meth c H locs k n mc ms (F0 m pc ls st0) rest (QU g Q A1 a) (XU g XX A1) free) (hS : va_S A0 H0 H locs) (hA : ∀ q, q < H.size → A1 q → A0 q) (hf : ∀ q, free q → A0 q)
    (kx : ∀ (E : String) (ce : Cell) (q9 : Addr) (w : va_W) (H1 : Heap) (locs1 : List Loc), XX E w → va_P g.2.1 vwCl w H1 → va_D A1 w → (∀ q : Nat, q < H.size → ¬ A1 q → H1[q]? = H[q]?) → va_S A0 H0 H1 locs1 → H1[q9]? = some ce → ce.vm = .none → s.vm.findClass E = some ce.cls → vx_W p l e R s m args below meth c H1 locs1 (k + mc) (n + ms) QQ (F0 m pc ls rest) q9)
    (kk : ∀ (v : Option Value) (w : va_W) (H1 : Heap) (locs1 : List Loc), Q v w → va_P g.2.1 vwCl w H1 → va_D A1 w → (∀ q : Nat, q < H.size → ¬ A1 q → H1[q]? = H[q]?) → va_S A0 H0 H1 locs1 → W p l e R s m args below meth c H1 locs1 (k + mc) (n + ms) QQ (F0 m (pc + 3) ls (v.toList ++ rest))) : W p l e R s m args below meth c H locs k n QQ (F0 m pc ls st0) := by
  intro T hT Y
  rcases hr T hT Y with ⟨v, st₀, t, T', L, h0, X', hL, e1, e2, ⟨⟨v2, w, hv, hq, hp, hd⟩, hF⟩, st⟩ | ⟨q, st₀, t, T', L, E, ce, h0, X', hL, e1, e2, ⟨⟨w, hx, hp, hd⟩, hF⟩, hce, hcv, hcl, st⟩
  · cases hv
    obtain ⟨k1, k2, k3⟩ := vx_keep h0 e1 hS hA hf hL hF
    obtain ⟨t2, a1, b1⟩ := kk v w T'.heap (locs ++ L) hq (by rw [e1]; exact hp) hd k2 k3 T' rfl X'
    exact ⟨t2, st t2 a1, b1⟩
  · obtain ⟨k1, k2, k3⟩ := vx_keep h0 e1 hS hA hf hL hF
    obtain ⟨t2, a1, b1⟩ := kx E ce q w T'.heap (locs ++ L) hx (by rw [e1]; exact hp) hd k2 k3 (by rw [e1]; exact hce) hcv hcl T' rfl X'
    exact ⟨t2, st.trans a1, b1⟩
/-- a call of a method that may throw, from one that hands the throw on -/
theorem V.callVX {y : MethodName} {wy wy' : List Cond} {rm rm0 : Room} {W0 : va_W} {Q Q0 : Option Value → va_W → Prop} {XX XX0 : String → va_W → Prop} {C : String} {T : u_T} {N ci i maxL b : Nat} {bytes : ByteArray} {ret r0 : Option FieldType} {nm : String} {fs : List Value} (As rest : List Value) (hM : UX g y wy rm (.ref b :: As) W0 Q XX) (hG : GoodIn Ts (wsV own i C y wy)) (hw : wy = Cond.code y bytes maxL ret :: wy')
    (hd1 : y.cls = C ∧ y.cls ≠ "java/lang/invoke/MethodHandle" ∧ y.cls ≠ "java/lang/invoke/VarHandle" ∧ (parseMethodDescriptor y.desc).map (fun d => d.parameters.length) = some As.length) (hRm : rm.frames + 1 ≤ R.frames ∧ 8 + (maxL + 11) + rm.locals ≤ R.locals) (hc : vwCl[ci]? = some (C, T, N)) (q0 : Nat) (he : ws[q0]? = some (b, .inr (ci, fs)))
    (is : List Nat) (hnd : va_nd is = true) (hC : is.map (fun i => ws[i]?) = W0.map some) (hst : st = As.reverse ++ .ref b :: rest) (hcat : (rest.map fun v => v.category).sum ≤ 8) (hf : k + rm.cells ≤ R.cells ∧ n + rm.slots ≤ R.slots) (hf0 : k + rm.cells ≤ rm0.cells ∧ n + rm.slots ≤ rm0.slots) (hd : decode cc pc = .ok (.invokevirtual i, 3)) (hQa : ∀ v w, Q v w → (w.take is.length).map Prod.fst = W0.map Prod.fst) (hXa : ∀ E w, XX E w → (w.take is.length).map Prod.fst = W0.map Prod.fst) (hx : ∀ E w, XX E w → XX0 E (insW ws is w))
    (kk : ∀ v w, Q v w → V g R own cc Ts nL (QFx g rm0 Q0 XX0) (XMx r0 nm) (k + rm.cells) (n + rm.slots) (insW ws is w) (pc + 3) lv (v.toList ++ rest)) : V g R own cc Ts nL (QFx g rm0 Q0 XX0) (XMx r0 nm) k n ws pc lv st := by
  intro p e s m args below meth c A hx1 hb hml ho ht hA hE hX H locs ls hP hK hD hS hl
  have hF := va_free hD hS hA is hC
  refine vx_callU (vx_runV (As := As) (rest := rest) ⟨hx1, hb, hml, ho, ht⟩ (hM H.size) (cwV As.length ht hG hw rfl rfl hd1 hRm) ⟨PU.blind, va_recv hK hP hc he, fun U hU hW => PU.at hA hE hP hK hD hS hnd hC hU hW⟩ rfl rfl hl.1 hst (lv_room hcat) hd hf) hS (fun q _ h => hF q h) hF (fun E ce q9 w H1 locs1 hxe hP1 hD1 hk1 hS hce hcv hcl => ?_) (fun v w H1 locs1 hq hP1 hD1 hk1 hS => ?_)
  · obtain ⟨hP2, hD2⟩ := insW_ok hP hD is hC hk1 hF hP1 hD1 (hXa E w hxe)
    exact vx_out (fun x h => (hX.2.2.2 x h).elim) hX.2.1 hce hcv hcl (fun t ht2 _ => ⟨⟨_, hx E w hxe, by rw [ht2]; exact hP2, hD2⟩, hS.F ht2⟩) hS.2.2 hf0.1 hf0.2
  · obtain ⟨hP2, hD2⟩ := insW_ok hP hD is hC hk1 hF hP1 hD1 (hQa v w hq)
    exact kk v w hq p e s m args below meth c A hx1 hb hml ho ht hA hE hX H1 locs1 ls hP2 hK hD2 hS hl
theorem V.callSX {y : MethodName} {wy wy' : List Cond} {rm rm0 : Room} {W0 : va_W} {Q Q0 : Option Value → va_W → Prop} {XX XX0 : String → va_W → Prop} {i maxL : Nat} {bytes : ByteArray} {ret r0 : Option FieldType} {nm : String} (As rest : List Value) (hM : UX g y wy rm As W0 Q XX) (hG : GoodIn Ts (va_wsS own i y wy)) (hw : wy = Cond.code y bytes maxL ret :: wy')
    (hd1 : y.cls ≠ "java/lang/invoke/MethodHandle" ∧ y.cls ≠ "java/lang/invoke/VarHandle" ∧ (parseMethodDescriptor y.desc).map (fun d => d.parameters.length) = some As.length) (hRm : rm.frames + 1 ≤ R.frames ∧ 8 + (maxL + 11) + rm.locals ≤ R.locals)
    (is : List Nat) (hnd : va_nd is = true) (hC : is.map (fun i => ws[i]?) = W0.map some) (hst : st = As.reverse ++ rest) (hcat : (rest.map fun v => v.category).sum ≤ 8) (hf : k + rm.cells ≤ R.cells ∧ n + rm.slots ≤ R.slots) (hf0 : k + rm.cells ≤ rm0.cells ∧ n + rm.slots ≤ rm0.slots) (hd : decode cc pc = .ok (.invokestatic i, 3)) (hQa : ∀ v w, Q v w → (w.take is.length).map Prod.fst = W0.map Prod.fst) (hXa : ∀ E w, XX E w → (w.take is.length).map Prod.fst = W0.map Prod.fst) (hx : ∀ E w, XX E w → XX0 E (insW ws is w))
    (kk : ∀ v w, Q v w → V g R own cc Ts nL (QFx g rm0 Q0 XX0) (XMx r0 nm) (k + rm.cells) (n + rm.slots) (insW ws is w) (pc + 3) lv (v.toList ++ rest)) : V g R own cc Ts nL (QFx g rm0 Q0 XX0) (XMx r0 nm) k n ws pc lv st := by
  intro p e s m args below meth c A hx1 hb hml ho ht hA hE hX H locs ls hP hK hD hS hl
  have hF := va_free hD hS hA is hC
  refine vx_callU (vx_runS (As := As) (rest := rest) ⟨hx1, hb, hml, ho, ht⟩ (hM H.size) (va_cwS As.length ht hG hw rfl rfl hd1 hRm) ⟨PU.blind, fun U hU hW => PU.at hA hE hP hK hD hS hnd hC hU hW⟩ rfl rfl hl.1 hst (lv_room hcat) hd hf) hS (fun q _ h => hF q h) hF (fun E ce q9 w H1 locs1 hxe hP1 hD1 hk1 hS hce hcv hcl => ?_) (fun v w H1 locs1 hq hP1 hD1 hk1 hS => ?_)
  · obtain ⟨hP2, hD2⟩ := insW_ok hP hD is hC hk1 hF hP1 hD1 (hXa E w hxe)
    exact vx_out (fun x h => (hX.2.2.2 x h).elim) hX.2.1 hce hcv hcl (fun t ht2 _ => ⟨⟨_, hx E w hxe, by rw [ht2]; exact hP2, hD2⟩, hS.F ht2⟩) hS.2.2 hf0.1 hf0.2
  · obtain ⟨hP2, hD2⟩ := insW_ok hP hD is hC hk1 hF hP1 hD1 (hQa v w hq)
    exact kk v w hq p e s m args below meth c A hx1 hb hml ho ht hA hE hX H1 locs1 ls hP2 hK hD2 hS hl
theorem va_Ps {D : va_G} {cl : List vw_C} {H H1 : Heap} (h : va_P D cl ws H) (hk : ∀ q : Nat, q < H.size → H1[q]? = H[q]?) : va_P D cl ws H1 := h.kept fun _ _ hq => hk _ (h _ _ hq).lt
/-- new X(text), thrown -/
theorem V.throwS {rm0 : Room} {Q0 : Option Value → va_W → Prop} {XX0 : String → va_W → Prop} {r0 : Option FieldType} {nm cls text : String} {ik is ic : Nat} (hst : g.1.stackTraces = false) (hcls : Bundle.fit cls = true) (hk : Cond.classLink RX5 ik cls ∈ Ts) (hini : Cond.initialized cls ∈ Ts) (hks : (RX5, is, text) ∈ ksG) (h0 : vx_gd ic cls = true) (hat : ∀ w ∈ (vx_atS RX5 ic cls ["java/lang/RuntimeException", "java/lang/Exception"]).filter goodWord, w ∈ Ts)
    (d0 : decode cc pc = .ok (.new ik, 3)) (d3 : decode cc (pc + 3) = .ok (.dup, 1)) (d4 : decode cc (pc + 4) = .ok (.ldc is, 2)) (d6 : decode cc (pc + 6) = .ok (.invokespecial ic, 3)) (d9 : decode cc (pc + 9) = .ok (.athrow, 1)) (hRf : 5 < R.frames) (hRl : (st.map fun v => v.category).sum + 82 ≤ R.locals) (hRc : k + 1 ≤ R.cells) (hRs : n + 6 ≤ R.slots) (hXX : XX0 cls ws) (hc : k + 1 ≤ rm0.cells) (hs : n + 6 ≤ rm0.slots) : V g R RX5 cc Ts nL (QFx g rm0 Q0 XX0) (XMx r0 nm) k n ws pc lv st := by
  intro p e s m args below meth c A hx1 hb hml ho ht hA hE hX H locs ls hP hK hD hS hl
  obtain ⟨sa, hsa⟩ := hE.2.2.2.2.1 _ hks
  have hall := vx_all hE ht h0 hat
  refine vx_throwS (A := A) hx1 hb hst ho hcls (by decide +kernel) (ht _ hk) (ht _ hini) hsa (fun w hw => (hall w hw).1) (fun w hw => ?_) hE.2.2.1 hE.2.2.2.1 hS (hl.1.trans hml.symm) d0 d3 d4 d6 d9 (fun x h => (hX.2.2.2 x h).elim) hRf hRl hRc hRs hX.2.1 (fun t _ hz hkeep => ⟨⟨ws, hXX, va_Ps hP hkeep, hD⟩, ⟨Nat.le_trans hS.1 hz, fun q h1 h2 => (hkeep q (Nat.lt_of_lt_of_le h1 hS.1)).trans (hS.2.1 q h1 h2)⟩⟩) hS.2.2 hc hs
  rcases List.mem_cons.mp hw with rfl | hw
  · rfl
  rcases List.mem_cons.mp hw with rfl | hw
  · rfl
  exact (hall w hw).2
theorem V.throwSW {rm0 : Room} {Q0 : Option Value → va_W → Prop} {XX0 : String → va_W → Prop} {r0 : Option FieldType} {nm cls text : String} {ik is ic : Nat} (hst : g.1.stackTraces = false) (hcls : Bundle.fit cls = true) (hk : Cond.classLink RX5 ik cls ∈ Ts) (hini : Cond.initialized cls ∈ Ts) (hks : (RX5, is, text) ∈ ksG) (h0 : vx_gd ic cls = true) (hat : ∀ w ∈ (vx_atS RX5 ic cls ["java/lang/RuntimeException", "java/lang/Exception"]).filter goodWord, w ∈ Ts)
    (d0 : decode cc pc = .ok (.new ik, 3)) (d3 : decode cc (pc + 3) = .ok (.dup, 1)) (d4 : decode cc (pc + 4) = .ok (.ldc_w is, 3)) (d6 : decode cc (pc + 7) = .ok (.invokespecial ic, 3)) (d9 : decode cc (pc + 10) = .ok (.athrow, 1)) (hRf : 5 < R.frames) (hRl : (st.map fun v => v.category).sum + 82 ≤ R.locals) (hRc : k + 1 ≤ R.cells) (hRs : n + 6 ≤ R.slots) (hXX : XX0 cls ws) (hc : k + 1 ≤ rm0.cells) (hs : n + 6 ≤ rm0.slots) : V g R RX5 cc Ts nL (QFx g rm0 Q0 XX0) (XMx r0 nm) k n ws pc lv st := by
  intro p e s m args below meth c A hx1 hb hml ho ht hA hE hX H locs ls hP hK hD hS hl
  obtain ⟨sa, hsa⟩ := hE.2.2.2.2.1 _ hks
  have hall := vx_all hE ht h0 hat
  refine vx_throwSW (A := A) hx1 hb hst ho hcls (by decide +kernel) (ht _ hk) (ht _ hini) hsa (fun w hw => (hall w hw).1) (fun w hw => ?_) hE.2.2.1 hE.2.2.2.1 hS (hl.1.trans hml.symm) d0 d3 d4 d6 d9 (fun x h => (hX.2.2.2 x h).elim) hRf hRl hRc hRs hX.2.1 (fun t _ hz hkeep => ⟨⟨ws, hXX, va_Ps hP hkeep, hD⟩, ⟨Nat.le_trans hS.1 hz, fun q h1 h2 => (hkeep q (Nat.lt_of_lt_of_le h1 hS.1)).trans (hS.2.1 q h1 h2)⟩⟩) hS.2.2 hc hs
  rcases List.mem_cons.mp hw with rfl | hw
  · rfl
  rcases List.mem_cons.mp hw with rfl | hw
  · rfl
  exact (hall w hw).2
end KX
end
section
/-! THE SPEC, raw: what the reference's methods do to its rows, as functions (flat rows z, Int32 values) -/
def bi (b : Bool) : Int32 := if b then 1 else 0
theorem bi_nar (b : Bool) : narrow .boolean (.int (bi b)) = .int (bi b) := by cases b <;> rfl
theorem bi_0 {b : Bool} (h : bi b = 0) : b = false := by cases b with
  | false => rfl
  | true => exact absurd h (by decide)
theorem bi_1 {b : Bool} (h : ¬ bi b = 0) : b = true := by cases b with
  | false => exact absurd rfl h
  | true => rfl
def en : Option Nat → Int32
  | none => -1
  | some b => nI b
def fuR {σ : Type} (F : Nat → σ → σ) : Nat → Nat → σ → σ
  | _, 0, x => x
  | i, k + 1, x => fuR F (i + 1) k (F i x)
theorem fu_ex {σ : Type} (F : Nat → σ → σ) : ∃ f : Nat → Nat → σ → σ, (∀ i x, f i 0 x = x) ∧ ∀ i k x, f i (k + 1) x = f (i + 1) k (F i x) := ⟨fuR F, fun _ _ => rfl, fun _ _ _ => rfl⟩
/-- F at i, i + 1, .., in k steps (chosen, so that no unifier walks the steps) -/
noncomputable def fu {σ : Type} (F : Nat → σ → σ) : Nat → Nat → σ → σ := Classical.choose (fu_ex F)
theorem fu_0 {σ : Type} {F : Nat → σ → σ} {i : Nat} {x : σ} : fu F i 0 x = x := (Classical.choose_spec (fu_ex F)).1 i x
theorem fu_s {σ : Type} {F : Nat → σ → σ} {i k : Nat} {x : σ} : fu F i (k + 1) x = fu F (i + 1) k (F i x) := (Classical.choose_spec (fu_ex F)).2 i k x
theorem fu_4 {σ : Type} {F : Nat → σ → σ} {x : σ} : fu F 0 4 x = F 3 (F 2 (F 1 (F 0 x))) := by rw [fu_s, fu_s, fu_s, fu_s, fu_0]
theorem fu_3 {σ : Type} {F : Nat → σ → σ} {x : σ} : fu F 0 3 x = F 2 (F 1 (F 0 x)) := by rw [fu_s, fu_s, fu_s, fu_0]
/-- the first of i, i + 1, .., in k steps, that p says yes to -/
def ff (p : Nat → Bool) : Nat → Nat → Option Nat
  | _, 0 => none
  | i, k + 1 => if p i then some i else ff p (i + 1) k
def nf (z : Nat → Int32) : Nat := (z 5).toNatClampNeg
def np (z : Nat → Int32) : Nat := (z 6).toNatClampNeg
def wi (v lo hi : Int32) : Bool := !(decide (v < lo)) && !(decide (hi < v))
def cl (x : Int32) : Int32 := if 0 ≤ x then (if x ≤ 100 then x else 100) else 0
def tM (z : Nat → Int32) (n f : Nat) (d : Int32) : Nat → Int32 := upd z (216 + 8 * n + f) (cl (z (216 + 8 * n + f) + d))
def ap (a b : Int32) : Int32 := if b ≤ a then a - b else b - a
def gz (z : Nat → Int32) (x m : Int32) : Nat → Int32 := upd (upd z 7 (z 7 + (ap (z 9) x + m))) 9 x
def nx (s : Int32) : Int32 := ((1103515245 * s.toInt64 + 12345) &&& 2147483647).toInt32
def dz (z : Nat → Int32) : Nat → Int32 := upd z 8 (nx (z 8))
def dv (z : Nat → Int32) (m : Int32) : Int32 := nx (z 8) / 65536 - nx (z 8) / 65536 / m * m
def gv (z : Nat → Int32) (f : Nat) (kd : Int32) : Bool := decide (z (12 + 8 * f + 1) = kd) && !(decide (z (12 + 8 * f + 2) ≤ 0))
def bt (z : Nat → Int32) (n f t : Nat) : Bool := decide (0 < z (216 + 8 * n + f) - z (216 + 8 * n + t)) || (decide (z (216 + 8 * n + f) - z (216 + 8 * n + t) = 0) && !(decide (ap (z (12 + 8 * t + 0)) (z 9) ≤ ap (z (12 + 8 * f + 0)) (z 9))))
def csF (z : Nat → Int32) (n : Nat) (kd : Int32) (i : Nat) (o : Option Nat) : Option Nat := if gv z i kd && (match o with | none => true | some b => bt z n i b) then some i else o
noncomputable def cho (z : Nat → Int32) (n : Nat) (kd : Int32) : Option Nat := fu (csF z n kd) 0 (nf z) none
theorem en_ne {b N : Nat} (h : b < N) (hN : N ≤ 1000) : ¬ nI b = -1 := by
  intro e
  have h1 := nI_pos (n := b) (by omega)
  rw [e] at h1
  exact h1 (by decide)
theorem en_1 {o : Option Nat} (h : en o = -1) (hb : ∀ b, o = some b → b < 1000) : o = none := by
  cases o with
  | none => rfl
  | some b => exact absurd h (en_ne (hb b rfl) (Nat.le_refl _))
noncomputable def isA (ai : Nat → Int32) (n p : Nat) : Bool := fu (fun m b => b || decide (ai m = nI p)) 0 n false
noncomputable def apr (z : Nat → Int32) (n : Nat) (ai : Nat → Int32) (p : Nat) : Bool := decide ((z (196 + 5 * n + 0) >>> (z (76 + 5 * p + 1) &&& 31)) &&& 1 = 1) && !(decide (en (cho z n (z (76 + 5 * p + 1))) = -1)) && decide (z (76 + 5 * p + 2) = 0) && !(isA ai n p)
noncomputable def ao (z : Nat → Int32) (n : Nat) (ai : Nat → Int32) : Option Nat := ff (apr z n ai) 0 (np z)
noncomputable def lA (z : Nat → Int32) (ai : Nat → Int32) : Nat → Int32 := fu (fun n ai => upd ai n (en (ao z n ai))) 0 4 ai
/-! a try, a pick, a look, a laying, gossip, tours: raw -/
def ta (z : Nat → Int32) (f : Nat) : Nat → Int32 := gz z (z (12 + 8 * f + 0)) 2
def tb (z : Nat → Int32) (f : Nat) : Nat → Int32 := upd (ta z f) (12 + 8 * f + 5) (ta z f (12 + 8 * f + 5) + 1)
def tc (z : Nat → Int32) (n f : Nat) : Nat → Int32 := upd (tb z f) (196 + 5 * n + 1) (tb z f (196 + 5 * n + 1) + 1)
def td (z : Nat → Int32) (n f : Nat) : Nat → Int32 := dz (tc z n f)
/-- the try is a miss -/
def tms (z : Nat → Int32) (n f : Nat) : Bool := !(decide (td z n f (12 + 8 * f + 3) ≤ dv (tc z n f) 100))
def te (z : Nat → Int32) (n f : Nat) : Nat → Int32 := tM (td z n f) n f (-(td z n f 1))
def tg (z : Nat → Int32) (n f : Nat) : Nat → Int32 := upd (te z n f) (12 + 8 * f + 6) (te z n f (12 + 8 * f + 6) + 1)
def th (z : Nat → Int32) (n f : Nat) : Nat → Int32 := upd (tg z n f) (196 + 5 * n + 2) (tg z n f (196 + 5 * n + 2) + 1)
def ti (z : Nat → Int32) (n f : Nat) : Nat → Int32 := upd (td z n f) (12 + 8 * f + 2) (td z n f (12 + 8 * f + 2) - 1)
def tj (z : Nat → Int32) (n f : Nat) : Nat → Int32 := tM (ti z n f) n f (ti z n f 2)
def tk (z : Nat → Int32) (n f : Nat) : Nat → Int32 := dz (tj z n f)
def tT (z : Nat → Int32) (n f : Nat) : Int32 := if tk z n f (12 + 8 * f + 4) ≤ dv (tj z n f) 100 then 0 else 1
def trZ (z : Nat → Int32) (n f : Nat) : Nat → Int32 := if tms z n f then th z n f else tk z n f
def trP (z : Nat → Int32) (n f : Nat) (pa : Nat → Int32) : Nat → Int32 := if tms z n f then pa else upd pa n (nI f)
def trT (z : Nat → Int32) (n f : Nat) (tu : Nat → Int32) : Nat → Int32 := if tms z n f then tu else upd tu n (tT z n f)
abbrev RS : Type := (Nat → Int32) × (Nat → Int32) × (Nat → Int32)
/-- picks of nozzle n for the place p: as many tries as m, while b -/
noncomputable def pkL (n p : Nat) : Nat → Bool → RS → RS
  | 0, _, s => s
  | m + 1, b, s => match b, cho s.1 n (s.1 (76 + 5 * p + 1)) with
    | false, _ => s
    | true, none => s
    | true, some f => pkL n p m (tms s.1 n f) (trZ s.1 n f, trP s.1 n f s.2.1, trT s.1 n f s.2.2)
noncomputable def pkA (n : Nat) (o : Option Nat) (s : RS) : RS := match o with
  | none => (s.1, upd s.2.1 n (-1), s.2.2)
  | some p => pkL n p ((s.1 0).toNatClampNeg + 1) true (s.1, upd s.2.1 n (-1), s.2.2)
/-- a look -/
def lka (z : Nat → Int32) (n f : Nat) : Nat → Int32 := tM (dz z) n f (-(dz z 1))
def lkb (z : Nat → Int32) (n f : Nat) : Nat → Int32 := upd (lka z n f) (12 + 8 * f + 7) (lka z n f (12 + 8 * f + 7) + 1)
def lkc (z : Nat → Int32) (n f : Nat) : Nat → Int32 := upd (lkb z n f) (196 + 5 * n + 4) (lkb z n f (196 + 5 * n + 4) + 1)
def lkS (z : Nat → Int32) (t : Int32) : Bool := !(decide (dz z 3 ≤ dv z 100)) && decide (t = 1)
def lkZ (n : Nat) (o : Option Nat) (z : Nat → Int32) (t : Int32) : Nat → Int32 := match o with
  | none => z
  | some f => if lkS z t then lkc z n f else dz z
def lkP (n : Nat) (o : Option Nat) (z : Nat → Int32) (t : Int32) (pa : Nat → Int32) : Nat → Int32 := match o with
  | none => pa
  | some _ => if lkS z t then upd pa n (-1) else pa
/-- a laying at p of f's part -/
def lya (z : Nat → Int32) (p : Nat) : Nat → Int32 := gz z (z (76 + 5 * p + 0)) 1
def lyb (z : Nat → Int32) (p : Nat) (t : Int32) : Nat → Int32 := upd (lya z p) (76 + 5 * p + 2) (if t = 1 then 2 else 1)
def lyc (z : Nat → Int32) (p : Nat) (t : Int32) (n : Nat) : Nat → Int32 := upd (lyb z p t) (76 + 5 * p + 3) (nI n)
def lyd (z : Nat → Int32) (p : Nat) (t : Int32) (n f : Nat) : Nat → Int32 := upd (lyc z p t n) (76 + 5 * p + 4) (nI f)
def lye (z : Nat → Int32) (p : Nat) (t : Int32) (n f : Nat) : Nat → Int32 := upd (lyd z p t n f) (196 + 5 * n + 3) (lyd z p t n f (196 + 5 * n + 3) + 1)
/-- gossip of n and n + 1 -/
def gsF (n f : Nat) (z : Nat → Int32) : Nat → Int32 := tM (tM z n f ((z (216 + 8 * (n + 1) + f) - z (216 + 8 * n + f)) * z 4 / 200)) (n + 1) f (-((z (216 + 8 * (n + 1) + f) - z (216 + 8 * n + f)) * z 4 / 200))
noncomputable def gsA (n : Nat) (z : Nat → Int32) : Nat → Int32 := fu (gsF n) 0 (nf z) z
/-! what stays -/
theorem upd_ne {f : Nat → Int32} {k j : Nat} {x : Int32} (h : j ≠ k) : upd f k x j = f j := by simp [upd, h]
theorem upd_eq {f : Nat → Int32} {k : Nat} {x : Int32} : upd f k x k = x := by simp [upd]
theorem tM_lo {z : Nat → Int32} {n f : Nat} {d : Int32} {j : Nat} (h : j < 216) : tM z n f d j = z j := upd_ne (by omega)
theorem gz_lo {z : Nat → Int32} {x m : Int32} {j : Nat} (h : j ≠ 7) (h2 : j ≠ 9) : gz z x m j = z j := by rw [gz, upd_ne h2, upd_ne h]
theorem dz_lo {z : Nat → Int32} {j : Nat} (h : j ≠ 8) : dz z j = z j := upd_ne h
theorem tc_lo {z : Nat → Int32} {n f j : Nat} (h : j < 7) : tc z n f j = z j := by
  rw [tc, upd_ne (by omega), tb, upd_ne (by omega), ta, gz_lo (by omega) (by omega)]
theorem td_lo {z : Nat → Int32} {n f j : Nat} (h : j < 7) : td z n f j = z j := by rw [td, dz_lo (by omega), tc_lo h]
theorem th_lo {z : Nat → Int32} {n f j : Nat} (h : j < 7) : th z n f j = z j := by
  rw [th, upd_ne (by omega), tg, upd_ne (by omega), te, tM_lo (by omega), td_lo h]
theorem tk_lo {z : Nat → Int32} {n f j : Nat} (h : j < 7) : tk z n f j = z j := by
  rw [tk, dz_lo (by omega), tj, tM_lo (by omega), ti, upd_ne (by omega), td_lo h]
theorem trZ_lo {z : Nat → Int32} {n f j : Nat} (h : j < 7) : trZ z n f j = z j := by
  unfold trZ
  split
  · exact th_lo h
  · exact tk_lo h
theorem nf_eq {z y : Nat → Int32} (h : z 5 = y 5) : nf z = nf y := by unfold nf; rw [h]
theorem np_eq {z y : Nat → Int32} (h : z 6 = y 6) : np z = np y := by unfold np; rw [h]
theorem csF_or {z : Nat → Int32} {n : Nat} {kd : Int32} {i : Nat} {o : Option Nat} : csF z n kd i o = some i ∨ csF z n kd i o = o := by
  rcases Decidable.em ((gv z i kd && (match o with | none => true | some b => bt z n i b)) = true) with h | h
  · exact Or.inl (if_pos h)
  · exact Or.inr (if_neg h)
theorem fu_lt {z : Nat → Int32} {n : Nat} {kd : Int32} : ∀ (k i : Nat) (o : Option Nat) (N : Nat), i + k = N → (∀ b, o = some b → b < N) → ∀ b, fu (csF z n kd) i k o = some b → b < N
  | 0, i, o, N, h, ho, b, hb => ho b (by rw [fu_0] at hb; exact hb)
  | k + 1, i, o, N, h, ho, b, hb => by
    rw [fu_s] at hb
    refine fu_lt k (i + 1) (csF z n kd i o) N (by omega) (fun c hc => ?_) b hb
    rcases csF_or (z := z) (n := n) (kd := kd) (i := i) (o := o) with e | e
    · rw [e] at hc
      cases hc
      omega
    · rw [e] at hc
      exact ho c hc
theorem cho_lt {z : Nat → Int32} {n : Nat} {kd : Int32} {f : Nat} (h : cho z n kd = some f) : f < nf z := fu_lt (nf z) 0 none (nf z) (by omega) (fun b hb => by cases hb) f h
theorem ff_lt {p : Nat → Bool} : ∀ (k i : Nat) (b : Nat), ff p i k = some b → b < i + k
  | 0, i, b, h => by cases h
  | k + 1, i, b, h => by
    unfold ff at h
    split at h
    · cases h; omega
    · have := ff_lt k (i + 1) b h
      omega
theorem pkL_f {n p m : Nat} {s : RS} : pkL n p m false s = s := by cases m <;> rfl
/-- a row's number read as a place or a feeder: -1 is none -/
def de (x : Int32) : Option Nat := if x = -1 then none else some x.toNatClampNeg
theorem de_en {o : Option Nat} (h : ∀ b, o = some b → b < 1000) : de (en o) = o := by
  cases o with
  | none => rfl
  | some b =>
    have hb := h b rfl
    unfold de
    rw [show en (some b) = nI b from rfl, if_neg (en_ne hb (Nat.le_refl _)), nI_clamp (by omega)]
def okN (N : Nat) (x : Int32) : Prop := x = en (de x) ∧ ∀ b, de x = some b → b < N
theorem okN_en {o : Option Nat} {N : Nat} (hN : N ≤ 1000) (h : ∀ b, o = some b → b < N) : okN N (en o) := by
  have e := de_en (o := o) (fun b hb => by have := h b hb; omega)
  exact ⟨by rw [e], fun b hb => h b (by rw [← e]; exact hb)⟩
theorem okN_m1 {N : Nat} (hN : N ≤ 1000) : okN N (-1) := okN_en (o := none) hN (fun b h => by cases h)
theorem okN_nI {b N : Nat} (hN : N ≤ 1000) (h : b < N) : okN N (nI b) := okN_en (o := some b) hN (fun c h2 => by cases h2; exact h)
/-- what walks need of a row z: its counts and its retries -/
def KZ (z : Nat → Int32) : Prop := z 5 = nI (nf z) ∧ nf z ≤ 8 ∧ z 6 = nI (np z) ∧ np z ≤ 24 ∧ z 0 = nI (z 0).toNatClampNeg ∧ (z 0).toNatClampNeg ≤ 5
def lo7 (y z : Nat → Int32) : Prop := ∀ k, k < 7 → y k = z k
theorem lo7.rf {z : Nat → Int32} : lo7 z z := fun _ _ => rfl
theorem lo7.tr {x y z : Nat → Int32} (h : lo7 x y) (h2 : lo7 y z) : lo7 x z := fun k hk => (h k hk).trans (h2 k hk)
theorem KZ.lo {y z : Nat → Int32} (h : KZ z) (e : lo7 y z) : KZ y := by
  obtain ⟨h1, h2, h3, h4, h5, h6⟩ := h
  have e0 := e 0 (by decide); have e5 := e 5 (by decide); have e6 := e 6 (by decide)
  exact ⟨by rw [e5, nf_eq e5]; exact h1, by rw [nf_eq e5]; exact h2, by rw [e6, np_eq e6]; exact h3, by rw [np_eq e6]; exact h4, by rw [e0]; exact h5, by rw [e0]; exact h6⟩
theorem trZ_lo7 {z : Nat → Int32} {n f : Nat} : lo7 (trZ z n f) z := fun _ h => trZ_lo h
theorem pkL_lo7 {n p : Nat} : ∀ (m : Nat) (b : Bool) (s : RS), lo7 (pkL n p m b s).1 s.1
  | 0, _, s => lo7.rf
  | m + 1, false, s => lo7.rf
  | m + 1, true, s => by
    unfold pkL
    cases h : cho s.1 n (s.1 (76 + 5 * p + 1)) with
    | none => exact lo7.rf
    | some f => exact (pkL_lo7 m _ _).tr trZ_lo7
theorem pkA_lo7 {n : Nat} {o : Option Nat} {s : RS} : lo7 (pkA n o s).1 s.1 := by
  cases o with
  | none => exact lo7.rf
  | some p => exact pkL_lo7 _ _ _
theorem lkZ_lo7 {n : Nat} {o : Option Nat} {z : Nat → Int32} {t : Int32} : lo7 (lkZ n o z t) z := by
  intro k hk
  cases o with
  | none => rfl
  | some f =>
    show (if lkS z t then lkc z n f else dz z) k = z k
    split
    · rw [lkc, upd_ne (by omega), lkb, upd_ne (by omega), lka, tM_lo (by omega), dz_lo (by omega)]
    · exact dz_lo (by omega)
def lyZ (n p : Nat) (o : Option Nat) (z : Nat → Int32) (t : Int32) : Nat → Int32 := match o with
  | none => z
  | some f => lye z p t n f
def lyR (o : Option Nat) : Int32 := match o with
  | none => 0
  | some _ => 1
theorem lyZ_lo7 {n p : Nat} {o : Option Nat} {z : Nat → Int32} {t : Int32} : lo7 (lyZ n p o z t) z := by
  intro k hk
  cases o with
  | none => rfl
  | some f =>
    show lye z p t n f k = z k
    rw [lye, upd_ne (by omega), lyd, upd_ne (by omega), lyc, upd_ne (by omega), lyb, upd_ne (by omega), lya, gz_lo (by omega) (by omega)]
theorem gsF_lo7 {n f : Nat} {z : Nat → Int32} : lo7 (gsF n f z) z := fun k hk => by rw [gsF, tM_lo (by omega), tM_lo (by omega)]
theorem fu_lo7 {F : Nat → (Nat → Int32) → Nat → Int32} (h : ∀ i y, lo7 (F i y) y) : ∀ (k i : Nat) (z : Nat → Int32), lo7 (fu F i k z) z
  | 0, _, _ => by rw [fu_0]; exact lo7.rf
  | k + 1, i, z => by rw [fu_s]; exact (fu_lo7 h k (i + 1) (F i z)).tr (h i z)
theorem gsA_lo7 {n : Nat} {z : Nat → Int32} : lo7 (gsA n z) z := fu_lo7 (fun _ _ => gsF_lo7) _ _ _
/-! a tour -/
noncomputable def rPF (A : Nat → Int32) (n : Nat) (s : RS) : RS := pkA n (de (A n)) s
abbrev R2 : Type := (Nat → Int32) × (Nat → Int32)
def rLF (tu : Nat → Int32) (n : Nat) (s : R2) : R2 := (lkZ n (de (s.2 n)) s.1 (tu n), lkP n (de (s.2 n)) s.1 (tu n) s.2)
def rYF (A pa tu : Nat → Int32) (n : Nat) (s : (Nat → Int32) × Int32) : (Nat → Int32) × Int32 := (lyZ n (A n).toNatClampNeg (de (pa n)) s.1 (tu n), s.2 + lyR (de (pa n)))
abbrev R5 : Type := (Nat → Int32) × (Nat → Int32) × (Nat → Int32) × (Nat → Int32)
noncomputable def rB (s : R5) : RS := fu (rPF (lA s.1 s.2.1)) 0 4 (s.1, s.2.2.1, s.2.2.2)
noncomputable def rC (s : R5) : R2 := fu (rLF (rB s).2.2) 0 4 ((rB s).1, (rB s).2.1)
noncomputable def rD (s : R5) : (Nat → Int32) × Int32 := fu (rYF (lA s.1 s.2.1) (rC s).2 (rB s).2.2) 0 4 ((rC s).1, 0)
noncomputable def rE (s : R5) : Nat → Int32 := fu gsA 0 3 (rD s).1
noncomputable def rT (s : R5) : R5 := (upd (rE s) 10 (rE s 10 + 1), lA s.1 s.2.1, (rC s).2, (rB s).2.2)
noncomputable def rTs (t : Nat) (s : R5 × Int32) : R5 × Int32 := fu (fun _ s => (rT s.1, s.2 + (rD s.1).2)) 0 t s
/-- which numbers aims, parts hold behind the steps -/
theorem lA_ok {z ai : Nat → Int32} (h : np z ≤ 24) {k : Nat} (hk : k < 4) : okN 24 (lA z ai k) := by
  have key : ∀ y n, okN 24 (en (ao z n y)) := fun y n => okN_en (by decide) (fun b hb => by have := ff_lt _ _ _ hb; omega)
  unfold lA
  rw [fu_4]
  rcases (show k = 0 ∨ k = 1 ∨ k = 2 ∨ k = 3 by omega) with rfl | rfl | rfl | rfl
  · rw [upd_ne (by decide), upd_ne (by decide), upd_ne (by decide), upd_eq]; exact key _ _
  · rw [upd_ne (by decide), upd_ne (by decide), upd_eq]; exact key _ _
  · rw [upd_ne (by decide), upd_eq]; exact key _ _
  · rw [upd_eq]; exact key _ _
/-! inspections, counts, copies, saved rows: raw -/
def emz (z : Nat → Int32) (p : Nat) : Nat → Int32 := upd (upd (upd z (76 + 5 * p + 2) 0) (76 + 5 * p + 3) (-1)) (76 + 5 * p + 4) (-1)
def pTF (z : Nat → Int32) (x : Int32) (p : Nat) (c : Int32) : Int32 := c + (if z (76 + 5 * p + 2) = x then 1 else 0)
noncomputable def pT (z : Nat → Int32) (x : Int32) : Int32 := fu (pTF z x) 0 (np z) 0
def inF (p : Nat) (s : (Nat → Int32) × Int32) : (Nat → Int32) × Int32 := if s.1 (76 + 5 * p + 2) = 2 then (emz (tM s.1 (s.1 (76 + 5 * p + 3)).toNatClampNeg (s.1 (76 + 5 * p + 4)).toNatClampNeg (-(s.1 1))) p, s.2 + 1) else s
noncomputable def inL (z : Nat → Int32) : (Nat → Int32) × Int32 := fu inF 0 (np z) (z, 0)
def inA (z : Nat → Int32) (c : Int32) : Nat → Int32 := upd z 7 (z 7 + 10)
noncomputable def inZ (z : Nat → Int32) : Nat → Int32 := upd (upd (inL z).1 7 ((inL z).1 7 + 10)) 11 (upd (inL z).1 7 ((inL z).1 7 + 10) 11 + (inL z).2)
/-- a wrong place tells its nozzle and its feeder -/
def PI (z : Nat → Int32) : Prop := ∀ p, p < 24 → z (76 + 5 * p + 2) = 2 → z (76 + 5 * p + 3) = nI (z (76 + 5 * p + 3)).toNatClampNeg ∧ (z (76 + 5 * p + 3)).toNatClampNeg < 4 ∧ z (76 + 5 * p + 4) = nI (z (76 + 5 * p + 4)).toNatClampNeg ∧ (z (76 + 5 * p + 4)).toNatClampNeg < 8
theorem tM_pl {z : Nat → Int32} {n f : Nat} {d : Int32} {p k : Nat} (hp : p < 24) (hk : k < 5) : tM z n f d (76 + 5 * p + k) = z (76 + 5 * p + k) := tM_lo (by omega)
theorem emz_lo {z : Nat → Int32} {p j : Nat} (h : j < 76) : emz z p j = z j := by rw [emz, upd_ne (by omega), upd_ne (by omega), upd_ne (by omega)]
theorem emz_ne {z : Nat → Int32} {p q k : Nat} (h : q ≠ p) (hk : k < 5) : emz z p (76 + 5 * q + k) = z (76 + 5 * q + k) := by rw [emz, upd_ne (by omega), upd_ne (by omega), upd_ne (by omega)]
theorem emz_2 {z : Nat → Int32} {p : Nat} : emz z p (76 + 5 * p + 2) = 0 := by rw [emz, upd_ne (by omega), upd_ne (by omega), upd_eq]
theorem PI.em {z : Nat → Int32} (h : PI z) (p : Nat) : PI (emz z p) := by
  intro q hq h2
  by_cases e : q = p
  · subst e; rw [emz_2] at h2; exact absurd h2 (by decide)
  · rw [emz_ne e (by omega)] at h2 ⊢
    rw [emz_ne e (by omega)]
    exact h q hq h2
theorem PI.tm {z : Nat → Int32} (h : PI z) (n f : Nat) (d : Int32) : PI (tM z n f d) := by
  intro q hq h2
  rw [tM_pl hq (by omega)] at h2 ⊢
  rw [tM_pl hq (by omega)]
  exact h q hq h2
theorem inF_lo7 {p : Nat} {s : (Nat → Int32) × Int32} : lo7 (inF p s).1 s.1 := by
  intro k hk
  unfold inF
  split
  · show emz _ p k = _
    rw [emz_lo (by omega), tM_lo (by omega)]
  · rfl
theorem inF_PI {p : Nat} {s : (Nat → Int32) × Int32} (h : PI s.1) : PI (inF p s).1 := by
  unfold inF
  split
  · exact (h.tm _ _ _).em _
  · exact h
/-- the first n places out of f -/
def cpF (f : Nat → Int32) (k : Nat) (y : Nat → Int32) : Nat → Int32 := upd y k (f k)
theorem cpF_at {f : Nat → Int32} : ∀ (k i : Nat) (y : Nat → Int32) (j : Nat), fu (cpF f) i k y j = if i ≤ j ∧ j < i + k then f j else y j
  | 0, i, y, j => by rw [if_neg (by omega), fu_0]
  | k + 1, i, y, j => by
    rw [fu_s, cpF_at k (i + 1) (cpF f i y) j]
    by_cases h : i + 1 ≤ j ∧ j < i + 1 + k
    · rw [if_pos h, if_pos (by omega)]
    · rw [if_neg h]
      by_cases h2 : j = i
      · subst h2; rw [if_pos (by omega)]; simp [cpF, upd]
      · rw [if_neg (by omega)]; simp [cpF, upd, h2]
def shF (k : Nat) (y : Nat → Int32) : Nat → Int32 := upd y (k - 248) (y k)
def svM (n : Nat) : Nat := if n = 6 then 5 else n
noncomputable def svH (n : Nat) (hi : Nat → Int32) : Nat → Int32 := if n = 6 then fu shF 248 1240 hi else hi
def svF (z : Nat → Int32) (m k : Nat) (y : Nat → Int32) : Nat → Int32 := upd y (248 * m + k) (z k)
noncomputable def svA (n : Nat) (z hi : Nat → Int32) : Nat → Int32 := fu (svF z (svM n)) 0 248 (svH n hi)
theorem svM_le {n : Nat} (h : n ≤ 6) : svM n ≤ 5 := by unfold svM; split <;> omega
/-! what the picks and the looks leave in the row of parts -/
theorem trP_ne {z : Nat → Int32} {n f k : Nat} {pa : Nat → Int32} (h : k ≠ n) : trP z n f pa k = pa k := by
  unfold trP
  split
  · rfl
  · exact upd_ne h
theorem pkL_ne {n p k : Nat} (h : k ≠ n) : ∀ (m : Nat) (b : Bool) (s : RS), (pkL n p m b s).2.1 k = s.2.1 k
  | 0, _, s => rfl
  | m + 1, false, s => rfl
  | m + 1, true, s => by
    unfold pkL
    cases hc : cho s.1 n (s.1 (76 + 5 * p + 1)) with
    | none => rfl
    | some f => exact (pkL_ne h m _ _).trans (trP_ne h)
theorem pkL_ok {n p : Nat} : ∀ (m : Nat) (b : Bool) (s : RS), KZ s.1 → okN 8 (s.2.1 n) → okN 8 ((pkL n p m b s).2.1 n)
  | 0, _, s, _, h => h
  | m + 1, false, s, _, h => h
  | m + 1, true, s, hK, h => by
    unfold pkL
    cases hc : cho s.1 n (s.1 (76 + 5 * p + 1)) with
    | none => exact h
    | some f =>
      refine pkL_ok m _ _ (hK.lo trZ_lo7) ?_
      show okN 8 (trP s.1 n f s.2.1 n)
      unfold trP
      split
      · exact h
      · rw [upd_eq]
        have h1 := cho_lt hc
        have h2 := hK.2.1
        exact okN_nI (by decide) (by omega)
theorem pkA_ne {n k : Nat} (h : k ≠ n) {o : Option Nat} {s : RS} : (pkA n o s).2.1 k = s.2.1 k := by
  cases o with
  | none => exact upd_ne h
  | some p => exact (pkL_ne h _ _ _).trans (upd_ne h)
theorem pkA_ok {n : Nat} {o : Option Nat} {s : RS} (hK : KZ s.1) : okN 8 ((pkA n o s).2.1 n) ∧ (o = none → (pkA n o s).2.1 n = -1) := by
  cases o with
  | none => exact ⟨by show okN 8 (upd s.2.1 n (-1) n); rw [upd_eq]; exact okN_m1 (by decide), fun _ => upd_eq⟩
  | some p => exact ⟨pkL_ok _ _ _ hK (by show okN 8 (upd s.2.1 n (-1) n); rw [upd_eq]; exact okN_m1 (by decide)), fun h => by cases h⟩
def goodP (A : Nat → Int32) (j : Nat) (x : Int32) : Prop := okN 8 x ∧ ∀ f, de x = some f → A j = nI (A j).toNatClampNeg ∧ (A j).toNatClampNeg < 24
theorem goodP_m1 {A : Nat → Int32} {j : Nat} : goodP A j (-1) := ⟨okN_m1 (by decide), fun f h => by rw [show de (-1) = none from rfl] at h; cases h⟩
theorem okN_some {x : Int32} {N p : Nat} (hN : N ≤ 1000) (h : okN N x) (hp : de x = some p) : x = nI x.toNatClampNeg ∧ x.toNatClampNeg < N := by
  have h1 := h.1
  rw [hp] at h1
  have h2 := h.2 p hp
  have h3 : x.toNatClampNeg = p := by rw [h1]; exact nI_clamp (by omega)
  rw [h3]
  exact ⟨h1, h2⟩
theorem picks_ok {A : Nat → Int32} (hA : ∀ k, k < 4 → okN 24 (A k)) : ∀ (k i : Nat) (s : RS), i + k = 4 → KZ s.1 → (∀ j, j < i → goodP A j (s.2.1 j)) → ∀ j, j < 4 → goodP A j ((fu (rPF A) i k s).2.1 j)
  | 0, i, s, hi, hK, h, j, hj => by rw [fu_0]; exact h j (by omega)
  | k + 1, i, s, hi, hK, h, j, hj => by
    rw [fu_s]
    refine picks_ok hA k (i + 1) (rPF A i s) (by omega) (hK.lo pkA_lo7) (fun j hj => ?_) j hj
    have e : (rPF A i s).2.1 j = (pkA i (de (A i)) s).2.1 j := rfl
    rw [e]
    by_cases hji : j = i
    · subst hji
      obtain ⟨a1, a2⟩ := pkA_ok (n := j) (o := de (A j)) (s := s) hK
      refine ⟨a1, fun f hf => ?_⟩
      cases ho : de (A j) with
      | none =>
        rw [ho] at a2 hf
        rw [a2 rfl] at hf
        cases hf
      | some p => exact okN_some (by decide) (hA j (by omega)) ho
    · rw [pkA_ne hji]
      exact h j (by omega)
theorem rB_good {s : R5} (hK : KZ s.1) (hP : np s.1 ≤ 24) : ∀ k, k < 4 → goodP (lA s.1 s.2.1) k ((rB s).2.1 k) := picks_ok (fun k hk => lA_ok hP hk) 4 0 _ rfl hK (fun j hj => absurd hj (Nat.not_lt_zero _))
theorem lkP_or {n : Nat} {o : Option Nat} {z : Nat → Int32} {t : Int32} {pa : Nat → Int32} (k : Nat) : lkP n o z t pa k = pa k ∨ lkP n o z t pa k = -1 := by
  cases o with
  | none => exact Or.inl rfl
  | some f =>
    show (if lkS z t then upd pa n (-1) else pa) k = pa k ∨ (if lkS z t then upd pa n (-1) else pa) k = -1
    split
    · by_cases h : k = n
      · subst h; exact Or.inr upd_eq
      · exact Or.inl (upd_ne h)
    · exact Or.inl rfl
theorem rLF_ok {tu : Nat → Int32} {i : Nat} {q : R2} (h : ∀ k, k < 4 → okN 8 (q.2 k)) : ∀ k, k < 4 → okN 8 ((rLF tu i q).2 k) := by
  intro k hk
  show okN 8 (lkP i (de (q.2 i)) q.1 (tu i) q.2 k)
  rcases lkP_or (n := i) (o := de (q.2 i)) (z := q.1) (t := tu i) (pa := q.2) k with e | e
  · rw [e]; exact h k hk
  · rw [e]; exact okN_m1 (by decide)
theorem looks_ok {A tu : Nat → Int32} : ∀ (k i : Nat) (q : R2), (∀ j, j < 4 → goodP A j (q.2 j)) → ∀ j, j < 4 → goodP A j ((fu (rLF tu) i k q).2 j)
  | 0, i, q, h, j, hj => by rw [fu_0]; exact h j hj
  | k + 1, i, q, h, j, hj => by
    rw [fu_s]
    refine looks_ok k (i + 1) (rLF tu i q) (fun j hj => ?_) j hj
    show goodP A j (lkP i (de (q.2 i)) q.1 (tu i) q.2 j)
    rcases lkP_or (n := i) (o := de (q.2 i)) (z := q.1) (t := tu i) (pa := q.2) j with e | e
    · rw [e]; exact h j hj
    · rw [e]; exact goodP_m1
theorem rB_ok {s : R5} (hK : KZ s.1) (hP : np s.1 ≤ 24) : ∀ k, k < 4 → okN 8 ((rB s).2.1 k) ∧ True := fun k hk => ⟨(rB_good hK hP k hk).1, trivial⟩
theorem rC_ok {s : R5} (hK : KZ s.1) (hP : np s.1 ≤ 24) : ∀ k, k < 4 → goodP (lA s.1 s.2.1) k ((rC s).2 k) := looks_ok 4 0 _ (rB_good hK hP)
theorem fuP_lo7 {σ : Type} {F : Nat → σ → σ} (pr : σ → Nat → Int32) (h : ∀ i y, lo7 (pr (F i y)) (pr y)) : ∀ (k i : Nat) (s : σ), lo7 (pr (fu F i k s)) (pr s)
  | 0, _, _ => by rw [fu_0]; exact lo7.rf
  | k + 1, i, s => by rw [fu_s]; exact (fuP_lo7 pr h k (i + 1) (F i s)).tr (h i s)
theorem rPF_lo7 {A : Nat → Int32} {i : Nat} {s : RS} : lo7 (rPF A i s).1 s.1 := pkA_lo7 (n := i) (o := de (A i)) (s := s)
theorem rLF_lo7 {tu : Nat → Int32} {i : Nat} {s : R2} : lo7 (rLF tu i s).1 s.1 := lkZ_lo7 (n := i) (o := de (s.2 i)) (z := s.1) (t := tu i)
theorem rYF_lo7 {A pa tu : Nat → Int32} {i : Nat} {s : (Nat → Int32) × Int32} : lo7 (rYF A pa tu i s).1 s.1 := lyZ_lo7 (n := i) (p := (A i).toNatClampNeg) (o := de (pa i)) (z := s.1) (t := tu i)
theorem rB_lo7 (s : R5) : lo7 (rB s).1 s.1 := fuP_lo7 (F := rPF (lA s.1 s.2.1)) (fun q : RS => q.1) (fun _ _ => rPF_lo7) 4 0 (s.1, s.2.2.1, s.2.2.2)
theorem rC_lo7 (s : R5) : lo7 (rC s).1 s.1 := (fuP_lo7 (F := rLF (rB s).2.2) (fun q : R2 => q.1) (fun _ _ => rLF_lo7) 4 0 ((rB s).1, (rB s).2.1)).tr (rB_lo7 s)
theorem fuY_lo7 {A pa tu : Nat → Int32} : ∀ (k i : Nat) (s : (Nat → Int32) × Int32), lo7 (fu (rYF A pa tu) i k s).1 s.1
  | 0, _, _ => by rw [fu_0]; exact lo7.rf
  | k + 1, i, s => by rw [fu_s]; exact (fuY_lo7 k (i + 1) (rYF A pa tu i s)).tr rYF_lo7
theorem fuY_lo7p {A pa tu : Nat → Int32} (k i : Nat) (z : Nat → Int32) (c : Int32) : lo7 (fu (rYF A pa tu) i k (z, c)).1 z := fuY_lo7 k i (z, c)
theorem rD_eq (s : R5) : rD s = fu (rYF (lA s.1 s.2.1) (rC s).2 (rB s).2.2) 0 4 ((rC s).1, 0) := by
  unfold rD
  rfl
theorem rD_lo7b (s : R5) (q : (Nat → Int32) × Int32) (h : rD s = q) (k : Nat) (hk : k < 7) (h2 : lo7 q.1 (rC s).1) : (rD s).1 k = s.1 k := by
  rw [h, h2 k hk]
  exact rC_lo7 s k hk
theorem rD_lo7 (s : R5) : lo7 (rD s).1 s.1 := fun k hk => rD_lo7b s _ (rD_eq s) k hk (fuY_lo7p 4 0 (rC s).1 0)
theorem rE_lo7 (s : R5) : lo7 (rE s) s.1 := by
  have h := fu_lo7 (F := gsA) (fun _ _ => gsA_lo7) 3 0 (rD s).1
  rw [← rE] at h
  exact h.tr (rD_lo7 s)
theorem rT_lo7 (s : R5) : lo7 (rT s).1 s.1 := by
  intro k hk
  have e : (rT s).1 = upd (rE s) 10 (rE s 10 + 1) := by rw [rT]
  rw [e, upd_ne (by omega)]
  exact rE_lo7 s k hk
end
