-- ===== PART A: goes FIRST, ahead of the names: the tables' words, and 'selects' of the private methods out of them =====
/-- a private method of a class that the tables say can be made, by its rows of tables_1 -/
def lw_okq (q : MethodName × Nat) : Prop := (q.1.cls ≠ "java/lang/invoke/MethodHandle" ∧ q.1.cls ≠ "java/lang/invoke/VarHandle") ∧ Cond.instantiable q.1.cls q.2 ∈ tables_1 ∧ Cond.privateMethod q.1 ∈ tables_1 ∧ Cond.instanceMethod q.1 ∈ tables_1
theorem lw_p0 : lw_okq (⟨"AvalancheInn", "putBytes", "(I)V"⟩, 13) := ⟨⟨by decide +kernel, by decide +kernel⟩, List.mem_of_getElem? (i := 22) (by decide +kernel), List.mem_of_getElem? (i := 590) (by decide +kernel), List.mem_of_getElem? (i := 591) (by decide +kernel)⟩
theorem lw_p1 : lw_okq (⟨"AvalancheInn$Parser", "begin", "(LAvalancheInn$Pass;)V"⟩, 11) := ⟨⟨by decide +kernel, by decide +kernel⟩, List.mem_of_getElem? (i := 371) (by decide +kernel), List.mem_of_getElem? (i := 606) (by decide +kernel), List.mem_of_getElem? (i := 607) (by decide +kernel)⟩
theorem lw_p2 : lw_okq (⟨"AvalancheInn$Lexer", "scanWord", "()V"⟩, 8) := ⟨⟨by decide +kernel, by decide +kernel⟩, List.mem_of_getElem? (i := 377) (by decide +kernel), List.mem_of_getElem? (i := 622) (by decide +kernel), List.mem_of_getElem? (i := 623) (by decide +kernel)⟩
theorem lw_p3 : lw_okq (⟨"AvalancheInn$Lexer", "scanNumber", "()V"⟩, 8) := ⟨⟨by decide +kernel, by decide +kernel⟩, List.mem_of_getElem? (i := 377) (by decide +kernel), List.mem_of_getElem? (i := 626) (by decide +kernel), List.mem_of_getElem? (i := 627) (by decide +kernel)⟩
theorem lw_p4 : lw_okq (⟨"AvalancheInn$Parser", "mayStand", "(I)Z"⟩, 11) := ⟨⟨by decide +kernel, by decide +kernel⟩, List.mem_of_getElem? (i := 371) (by decide +kernel), List.mem_of_getElem? (i := 688) (by decide +kernel), List.mem_of_getElem? (i := 689) (by decide +kernel)⟩
theorem lw_p5 : lw_okq (⟨"AvalancheInn$Parser", "readRest", "(I)Z"⟩, 11) := ⟨⟨by decide +kernel, by decide +kernel⟩, List.mem_of_getElem? (i := 371) (by decide +kernel), List.mem_of_getElem? (i := 693) (by decide +kernel), List.mem_of_getElem? (i := 694) (by decide +kernel)⟩
theorem lw_p6 : lw_okq (⟨"AvalancheInn$Parser", "readSlope", "()Z"⟩, 11) := ⟨⟨by decide +kernel, by decide +kernel⟩, List.mem_of_getElem? (i := 371) (by decide +kernel), List.mem_of_getElem? (i := 697) (by decide +kernel), List.mem_of_getElem? (i := 698) (by decide +kernel)⟩
theorem lw_p7 : lw_okq (⟨"AvalancheInn$Parser", "takeNumber", "(II)Z"⟩, 11) := ⟨⟨by decide +kernel, by decide +kernel⟩, List.mem_of_getElem? (i := 371) (by decide +kernel), List.mem_of_getElem? (i := 701) (by decide +kernel), List.mem_of_getElem? (i := 702) (by decide +kernel)⟩
theorem lw_p8 : lw_okq (⟨"AvalancheInn$Parser", "refuseToken", "()Z"⟩, 11) := ⟨⟨by decide +kernel, by decide +kernel⟩, List.mem_of_getElem? (i := 371) (by decide +kernel), List.mem_of_getElem? (i := 705) (by decide +kernel), List.mem_of_getElem? (i := 706) (by decide +kernel)⟩
theorem lw_p9 : lw_okq (⟨"AvalancheInn$Parser", "fail", "(II)Z"⟩, 11) := ⟨⟨by decide +kernel, by decide +kernel⟩, List.mem_of_getElem? (i := 371) (by decide +kernel), List.mem_of_getElem? (i := 709) (by decide +kernel), List.mem_of_getElem? (i := 710) (by decide +kernel)⟩
theorem lw_p10 : lw_okq (⟨"AvalancheInn$Parser", "takeWord", "(I)Z"⟩, 11) := ⟨⟨by decide +kernel, by decide +kernel⟩, List.mem_of_getElem? (i := 371) (by decide +kernel), List.mem_of_getElem? (i := 713) (by decide +kernel), List.mem_of_getElem? (i := 714) (by decide +kernel)⟩
theorem lw_p11 : lw_okq (⟨"AvalancheInn$Parser", "isWord", "(I)Z"⟩, 11) := ⟨⟨by decide +kernel, by decide +kernel⟩, List.mem_of_getElem? (i := 371) (by decide +kernel), List.mem_of_getElem? (i := 717) (by decide +kernel), List.mem_of_getElem? (i := 718) (by decide +kernel)⟩
theorem lw_p12 : lw_okq (⟨"AvalancheInn$Parser", "readLies", "()Z"⟩, 11) := ⟨⟨by decide +kernel, by decide +kernel⟩, List.mem_of_getElem? (i := 371) (by decide +kernel), List.mem_of_getElem? (i := 721) (by decide +kernel), List.mem_of_getElem? (i := 722) (by decide +kernel)⟩
theorem lw_p13 : lw_okq (⟨"AvalancheInn$Parser", "takeCell", "(I)Z"⟩, 11) := ⟨⟨by decide +kernel, by decide +kernel⟩, List.mem_of_getElem? (i := 371) (by decide +kernel), List.mem_of_getElem? (i := 725) (by decide +kernel), List.mem_of_getElem? (i := 726) (by decide +kernel)⟩
theorem lw_p14 : lw_okq (⟨"AvalancheInn$Parser", "readWall", "()Z"⟩, 11) := ⟨⟨by decide +kernel, by decide +kernel⟩, List.mem_of_getElem? (i := 371) (by decide +kernel), List.mem_of_getElem? (i := 732) (by decide +kernel), List.mem_of_getElem? (i := 733) (by decide +kernel)⟩
theorem lw_p15 : lw_okq (⟨"AvalancheInn$Parser", "readRoom", "()Z"⟩, 11) := ⟨⟨by decide +kernel, by decide +kernel⟩, List.mem_of_getElem? (i := 371) (by decide +kernel), List.mem_of_getElem? (i := 736) (by decide +kernel), List.mem_of_getElem? (i := 737) (by decide +kernel)⟩
def lw_privs_1 : List (MethodName × Nat) := [(⟨"AvalancheInn", "putBytes", "(I)V"⟩, 13), (⟨"AvalancheInn$Parser", "begin", "(LAvalancheInn$Pass;)V"⟩, 11), (⟨"AvalancheInn$Lexer", "scanWord", "()V"⟩, 8), (⟨"AvalancheInn$Lexer", "scanNumber", "()V"⟩, 8), (⟨"AvalancheInn$Parser", "mayStand", "(I)Z"⟩, 11), (⟨"AvalancheInn$Parser", "readRest", "(I)Z"⟩, 11), (⟨"AvalancheInn$Parser", "readSlope", "()Z"⟩, 11), (⟨"AvalancheInn$Parser", "takeNumber", "(II)Z"⟩, 11), (⟨"AvalancheInn$Parser", "refuseToken", "()Z"⟩, 11), (⟨"AvalancheInn$Parser", "fail", "(II)Z"⟩, 11), (⟨"AvalancheInn$Parser", "takeWord", "(I)Z"⟩, 11), (⟨"AvalancheInn$Parser", "isWord", "(I)Z"⟩, 11), (⟨"AvalancheInn$Parser", "readLies", "()Z"⟩, 11), (⟨"AvalancheInn$Parser", "takeCell", "(I)Z"⟩, 11), (⟨"AvalancheInn$Parser", "readWall", "()Z"⟩, 11), (⟨"AvalancheInn$Parser", "readRoom", "()Z"⟩, 11)]
theorem lw_r1 : ∀ q ∈ lw_privs_1, lw_okq q := List.forall_mem_cons.mpr ⟨lw_p0, List.forall_mem_cons.mpr ⟨lw_p1, List.forall_mem_cons.mpr ⟨lw_p2, List.forall_mem_cons.mpr ⟨lw_p3, List.forall_mem_cons.mpr ⟨lw_p4, List.forall_mem_cons.mpr ⟨lw_p5, List.forall_mem_cons.mpr ⟨lw_p6, List.forall_mem_cons.mpr ⟨lw_p7, List.forall_mem_cons.mpr ⟨lw_p8, List.forall_mem_cons.mpr ⟨lw_p9, List.forall_mem_cons.mpr ⟨lw_p10, List.forall_mem_cons.mpr ⟨lw_p11, List.forall_mem_cons.mpr ⟨lw_p12, List.forall_mem_cons.mpr ⟨lw_p13, List.forall_mem_cons.mpr ⟨lw_p14, List.forall_mem_cons.mpr ⟨lw_p15, fun _ h => absurd h List.not_mem_nil⟩⟩⟩⟩⟩⟩⟩⟩⟩⟩⟩⟩⟩⟩⟩⟩
theorem lw_p16 : lw_okq (⟨"AvalancheInn$Parser", "takeNewName", "([JI)Z"⟩, 11) := ⟨⟨by decide +kernel, by decide +kernel⟩, List.mem_of_getElem? (i := 371) (by decide +kernel), List.mem_of_getElem? (i := 740) (by decide +kernel), List.mem_of_getElem? (i := 741) (by decide +kernel)⟩
theorem lw_p17 : lw_okq (⟨"AvalancheInn$Parser", "isName", "()Z"⟩, 11) := ⟨⟨by decide +kernel, by decide +kernel⟩, List.mem_of_getElem? (i := 371) (by decide +kernel), List.mem_of_getElem? (i := 744) (by decide +kernel), List.mem_of_getElem? (i := 745) (by decide +kernel)⟩
theorem lw_p18 : lw_okq (⟨"AvalancheInn$Parser", "numberOfName", "([JI)I"⟩, 11) := ⟨⟨by decide +kernel, by decide +kernel⟩, List.mem_of_getElem? (i := 371) (by decide +kernel), List.mem_of_getElem? (i := 748) (by decide +kernel), List.mem_of_getElem? (i := 749) (by decide +kernel)⟩
theorem lw_p19 : lw_okq (⟨"AvalancheInn$Parser", "readGuest", "()Z"⟩, 11) := ⟨⟨by decide +kernel, by decide +kernel⟩, List.mem_of_getElem? (i := 371) (by decide +kernel), List.mem_of_getElem? (i := 752) (by decide +kernel), List.mem_of_getElem? (i := 753) (by decide +kernel)⟩
theorem lw_p20 : lw_okq (⟨"AvalancheInn$Parser", "takeRoomOf", "(I)Z"⟩, 11) := ⟨⟨by decide +kernel, by decide +kernel⟩, List.mem_of_getElem? (i := 371) (by decide +kernel), List.mem_of_getElem? (i := 756) (by decide +kernel), List.mem_of_getElem? (i := 757) (by decide +kernel)⟩
theorem lw_p21 : lw_okq (⟨"AvalancheInn$Parser", "readPart", "(II)Z"⟩, 11) := ⟨⟨by decide +kernel, by decide +kernel⟩, List.mem_of_getElem? (i := 371) (by decide +kernel), List.mem_of_getElem? (i := 761) (by decide +kernel), List.mem_of_getElem? (i := 762) (by decide +kernel)⟩
theorem lw_p22 : lw_okq (⟨"AvalancheInn$Parser", "readUnit", "(I)Z"⟩, 11) := ⟨⟨by decide +kernel, by decide +kernel⟩, List.mem_of_getElem? (i := 371) (by decide +kernel), List.mem_of_getElem? (i := 765) (by decide +kernel), List.mem_of_getElem? (i := 766) (by decide +kernel)⟩
theorem lw_p23 : lw_okq (⟨"AvalancheInn$Parser", "takeSign", "(C)Z"⟩, 11) := ⟨⟨by decide +kernel, by decide +kernel⟩, List.mem_of_getElem? (i := 371) (by decide +kernel), List.mem_of_getElem? (i := 773) (by decide +kernel), List.mem_of_getElem? (i := 774) (by decide +kernel)⟩
theorem lw_p24 : lw_okq (⟨"AvalancheInn$Parser", "joinOf", "(I)I"⟩, 11) := ⟨⟨by decide +kernel, by decide +kernel⟩, List.mem_of_getElem? (i := 371) (by decide +kernel), List.mem_of_getElem? (i := 777) (by decide +kernel), List.mem_of_getElem? (i := 778) (by decide +kernel)⟩
theorem lw_p25 : lw_okq (⟨"AvalancheInn$Parser", "readSetting", "(I)Z"⟩, 11) := ⟨⟨by decide +kernel, by decide +kernel⟩, List.mem_of_getElem? (i := 371) (by decide +kernel), List.mem_of_getElem? (i := 784) (by decide +kernel), List.mem_of_getElem? (i := 785) (by decide +kernel)⟩
theorem lw_p26 : lw_okq (⟨"AvalancheInn", "tipsNow", "(LAvalancheInn$State;II)Z"⟩, 13) := ⟨⟨by decide +kernel, by decide +kernel⟩, List.mem_of_getElem? (i := 22) (by decide +kernel), List.mem_of_getElem? (i := 824) (by decide +kernel), List.mem_of_getElem? (i := 825) (by decide +kernel)⟩
theorem lw_p27 : lw_okq (⟨"AvalancheInn$Hill", "addSnow", "(II)V"⟩, 10) := ⟨⟨by decide +kernel, by decide +kernel⟩, List.mem_of_getElem? (i := 323) (by decide +kernel), List.mem_of_getElem? (i := 901) (by decide +kernel), List.mem_of_getElem? (i := 902) (by decide +kernel)⟩
theorem lw_p28 : lw_okq (⟨"AvalancheInn$Hill", "slide", "(II)V"⟩, 10) := ⟨⟨by decide +kernel, by decide +kernel⟩, List.mem_of_getElem? (i := 323) (by decide +kernel), List.mem_of_getElem? (i := 907) (by decide +kernel), List.mem_of_getElem? (i := 908) (by decide +kernel)⟩
theorem lw_p29 : lw_okq (⟨"AvalancheInn$Hill", "follow", "(IIZ)V"⟩, 10) := ⟨⟨by decide +kernel, by decide +kernel⟩, List.mem_of_getElem? (i := 323) (by decide +kernel), List.mem_of_getElem? (i := 911) (by decide +kernel), List.mem_of_getElem? (i := 912) (by decide +kernel)⟩
theorem lw_p30 : lw_okq (⟨"AvalancheInn$Hill", "gather", "(IZ)V"⟩, 10) := ⟨⟨by decide +kernel, by decide +kernel⟩, List.mem_of_getElem? (i := 323) (by decide +kernel), List.mem_of_getElem? (i := 915) (by decide +kernel), List.mem_of_getElem? (i := 916) (by decide +kernel)⟩
theorem lw_p31 : lw_okq (⟨"AvalancheInn", "supposeHours", "(I)Z"⟩, 13) := ⟨⟨by decide +kernel, by decide +kernel⟩, List.mem_of_getElem? (i := 22) (by decide +kernel), List.mem_of_getElem? (i := 996) (by decide +kernel), List.mem_of_getElem? (i := 997) (by decide +kernel)⟩
def lw_privs_2 : List (MethodName × Nat) := [(⟨"AvalancheInn$Parser", "takeNewName", "([JI)Z"⟩, 11), (⟨"AvalancheInn$Parser", "isName", "()Z"⟩, 11), (⟨"AvalancheInn$Parser", "numberOfName", "([JI)I"⟩, 11), (⟨"AvalancheInn$Parser", "readGuest", "()Z"⟩, 11), (⟨"AvalancheInn$Parser", "takeRoomOf", "(I)Z"⟩, 11), (⟨"AvalancheInn$Parser", "readPart", "(II)Z"⟩, 11), (⟨"AvalancheInn$Parser", "readUnit", "(I)Z"⟩, 11), (⟨"AvalancheInn$Parser", "takeSign", "(C)Z"⟩, 11), (⟨"AvalancheInn$Parser", "joinOf", "(I)I"⟩, 11), (⟨"AvalancheInn$Parser", "readSetting", "(I)Z"⟩, 11), (⟨"AvalancheInn", "tipsNow", "(LAvalancheInn$State;II)Z"⟩, 13), (⟨"AvalancheInn$Hill", "addSnow", "(II)V"⟩, 10), (⟨"AvalancheInn$Hill", "slide", "(II)V"⟩, 10), (⟨"AvalancheInn$Hill", "follow", "(IIZ)V"⟩, 10), (⟨"AvalancheInn$Hill", "gather", "(IZ)V"⟩, 10), (⟨"AvalancheInn", "supposeHours", "(I)Z"⟩, 13)]
theorem lw_r2 : ∀ q ∈ lw_privs_2, lw_okq q := List.forall_mem_cons.mpr ⟨lw_p16, List.forall_mem_cons.mpr ⟨lw_p17, List.forall_mem_cons.mpr ⟨lw_p18, List.forall_mem_cons.mpr ⟨lw_p19, List.forall_mem_cons.mpr ⟨lw_p20, List.forall_mem_cons.mpr ⟨lw_p21, List.forall_mem_cons.mpr ⟨lw_p22, List.forall_mem_cons.mpr ⟨lw_p23, List.forall_mem_cons.mpr ⟨lw_p24, List.forall_mem_cons.mpr ⟨lw_p25, List.forall_mem_cons.mpr ⟨lw_p26, List.forall_mem_cons.mpr ⟨lw_p27, List.forall_mem_cons.mpr ⟨lw_p28, List.forall_mem_cons.mpr ⟨lw_p29, List.forall_mem_cons.mpr ⟨lw_p30, List.forall_mem_cons.mpr ⟨lw_p31, fun _ h => absurd h List.not_mem_nil⟩⟩⟩⟩⟩⟩⟩⟩⟩⟩⟩⟩⟩⟩⟩⟩
theorem lw_p32 : lw_okq (⟨"AvalancheInn", "hoursTillGone", "(I)I"⟩, 13) := ⟨⟨by decide +kernel, by decide +kernel⟩, List.mem_of_getElem? (i := 22) (by decide +kernel), List.mem_of_getElem? (i := 1013) (by decide +kernel), List.mem_of_getElem? (i := 1014) (by decide +kernel)⟩
theorem lw_p33 : lw_okq (⟨"AvalancheInn$Planner", "takeUp", "(LAvalancheInn$Pass;LAvalancheInn$State;)V"⟩, 11) := ⟨⟨by decide +kernel, by decide +kernel⟩, List.mem_of_getElem? (i := 499) (by decide +kernel), List.mem_of_getElem? (i := 1045) (by decide +kernel), List.mem_of_getElem? (i := 1046) (by decide +kernel)⟩
theorem lw_p34 : lw_okq (⟨"AvalancheInn$Planner", "noisyRooms", "()I"⟩, 11) := ⟨⟨by decide +kernel, by decide +kernel⟩, List.mem_of_getElem? (i := 499) (by decide +kernel), List.mem_of_getElem? (i := 1050) (by decide +kernel), List.mem_of_getElem? (i := 1051) (by decide +kernel)⟩
theorem lw_p35 : lw_okq (⟨"AvalancheInn$Planner", "layFirst", "(I)V"⟩, 11) := ⟨⟨by decide +kernel, by decide +kernel⟩, List.mem_of_getElem? (i := 499) (by decide +kernel), List.mem_of_getElem? (i := 1057) (by decide +kernel), List.mem_of_getElem? (i := 1058) (by decide +kernel)⟩
theorem lw_p36 : lw_okq (⟨"AvalancheInn$Planner", "tryPlaces", "(III)I"⟩, 11) := ⟨⟨by decide +kernel, by decide +kernel⟩, List.mem_of_getElem? (i := 499) (by decide +kernel), List.mem_of_getElem? (i := 1061) (by decide +kernel), List.mem_of_getElem? (i := 1062) (by decide +kernel)⟩
theorem lw_p37 : lw_okq (⟨"AvalancheInn$Planner", "placeStill", "(I)I"⟩, 11) := ⟨⟨by decide +kernel, by decide +kernel⟩, List.mem_of_getElem? (i := 499) (by decide +kernel), List.mem_of_getElem? (i := 1067) (by decide +kernel), List.mem_of_getElem? (i := 1068) (by decide +kernel)⟩
theorem lw_p38 : lw_okq (⟨"AvalancheInn$Planner", "comesFirst", "()Z"⟩, 11) := ⟨⟨by decide +kernel, by decide +kernel⟩, List.mem_of_getElem? (i := 499) (by decide +kernel), List.mem_of_getElem? (i := 1071) (by decide +kernel), List.mem_of_getElem? (i := 1072) (by decide +kernel)⟩
theorem lw_p39 : lw_okq (⟨"AvalancheInn$Planner", "allFirst", "(I)Z"⟩, 11) := ⟨⟨by decide +kernel, by decide +kernel⟩, List.mem_of_getElem? (i := 499) (by decide +kernel), List.mem_of_getElem? (i := 1075) (by decide +kernel), List.mem_of_getElem? (i := 1076) (by decide +kernel)⟩
theorem lw_p40 : lw_okq (⟨"AvalancheInn$Planner", "nextLanes", "(I)Z"⟩, 11) := ⟨⟨by decide +kernel, by decide +kernel⟩, List.mem_of_getElem? (i := 499) (by decide +kernel), List.mem_of_getElem? (i := 1079) (by decide +kernel), List.mem_of_getElem? (i := 1080) (by decide +kernel)⟩
theorem lw_p41 : lw_okq (⟨"AvalancheInn", "putDown", "(I)V"⟩, 13) := ⟨⟨by decide +kernel, by decide +kernel⟩, List.mem_of_getElem? (i := 22) (by decide +kernel), List.mem_of_getElem? (i := 1083) (by decide +kernel), List.mem_of_getElem? (i := 1084) (by decide +kernel)⟩
theorem lw_p42 : lw_okq (⟨"AvalancheInn$Planner", "allStay", "(II)Z"⟩, 11) := ⟨⟨by decide +kernel, by decide +kernel⟩, List.mem_of_getElem? (i := 499) (by decide +kernel), List.mem_of_getElem? (i := 1096) (by decide +kernel), List.mem_of_getElem? (i := 1097) (by decide +kernel)⟩
theorem lw_p43 : lw_okq (⟨"AvalancheInn$Planner", "leftBehind", "(I)I"⟩, 11) := ⟨⟨by decide +kernel, by decide +kernel⟩, List.mem_of_getElem? (i := 499) (by decide +kernel), List.mem_of_getElem? (i := 1108) (by decide +kernel), List.mem_of_getElem? (i := 1109) (by decide +kernel)⟩
theorem lw_p44 : lw_okq (⟨"AvalancheInn$Planner", "tryWall", "(IIII)V"⟩, 11) := ⟨⟨by decide +kernel, by decide +kernel⟩, List.mem_of_getElem? (i := 499) (by decide +kernel), List.mem_of_getElem? (i := 1112) (by decide +kernel), List.mem_of_getElem? (i := 1113) (by decide +kernel)⟩
theorem lw_p45 : lw_okq (⟨"AvalancheInn$Planner", "keepIfBest", "(III)Z"⟩, 11) := ⟨⟨by decide +kernel, by decide +kernel⟩, List.mem_of_getElem? (i := 499) (by decide +kernel), List.mem_of_getElem? (i := 1117) (by decide +kernel), List.mem_of_getElem? (i := 1118) (by decide +kernel)⟩
theorem lw_p46 : lw_okq (⟨"AvalancheInn$Planner", "tryDuel", "(III)V"⟩, 11) := ⟨⟨by decide +kernel, by decide +kernel⟩, List.mem_of_getElem? (i := 499) (by decide +kernel), List.mem_of_getElem? (i := 1145) (by decide +kernel), List.mem_of_getElem? (i := 1146) (by decide +kernel)⟩
theorem lw_p47 : lw_okq (⟨"AvalancheInn$Planner", "gainOf", "(I)I"⟩, 11) := ⟨⟨by decide +kernel, by decide +kernel⟩, List.mem_of_getElem? (i := 499) (by decide +kernel), List.mem_of_getElem? (i := 1150) (by decide +kernel), List.mem_of_getElem? (i := 1151) (by decide +kernel)⟩
def lw_privs_3 : List (MethodName × Nat) := [(⟨"AvalancheInn", "hoursTillGone", "(I)I"⟩, 13), (⟨"AvalancheInn$Planner", "takeUp", "(LAvalancheInn$Pass;LAvalancheInn$State;)V"⟩, 11), (⟨"AvalancheInn$Planner", "noisyRooms", "()I"⟩, 11), (⟨"AvalancheInn$Planner", "layFirst", "(I)V"⟩, 11), (⟨"AvalancheInn$Planner", "tryPlaces", "(III)I"⟩, 11), (⟨"AvalancheInn$Planner", "placeStill", "(I)I"⟩, 11), (⟨"AvalancheInn$Planner", "comesFirst", "()Z"⟩, 11), (⟨"AvalancheInn$Planner", "allFirst", "(I)Z"⟩, 11), (⟨"AvalancheInn$Planner", "nextLanes", "(I)Z"⟩, 11), (⟨"AvalancheInn", "putDown", "(I)V"⟩, 13), (⟨"AvalancheInn$Planner", "allStay", "(II)Z"⟩, 11), (⟨"AvalancheInn$Planner", "leftBehind", "(I)I"⟩, 11), (⟨"AvalancheInn$Planner", "tryWall", "(IIII)V"⟩, 11), (⟨"AvalancheInn$Planner", "keepIfBest", "(III)Z"⟩, 11), (⟨"AvalancheInn$Planner", "tryDuel", "(III)V"⟩, 11), (⟨"AvalancheInn$Planner", "gainOf", "(I)I"⟩, 11)]
theorem lw_r3 : ∀ q ∈ lw_privs_3, lw_okq q := List.forall_mem_cons.mpr ⟨lw_p32, List.forall_mem_cons.mpr ⟨lw_p33, List.forall_mem_cons.mpr ⟨lw_p34, List.forall_mem_cons.mpr ⟨lw_p35, List.forall_mem_cons.mpr ⟨lw_p36, List.forall_mem_cons.mpr ⟨lw_p37, List.forall_mem_cons.mpr ⟨lw_p38, List.forall_mem_cons.mpr ⟨lw_p39, List.forall_mem_cons.mpr ⟨lw_p40, List.forall_mem_cons.mpr ⟨lw_p41, List.forall_mem_cons.mpr ⟨lw_p42, List.forall_mem_cons.mpr ⟨lw_p43, List.forall_mem_cons.mpr ⟨lw_p44, List.forall_mem_cons.mpr ⟨lw_p45, List.forall_mem_cons.mpr ⟨lw_p46, List.forall_mem_cons.mpr ⟨lw_p47, fun _ h => absurd h List.not_mem_nil⟩⟩⟩⟩⟩⟩⟩⟩⟩⟩⟩⟩⟩⟩⟩⟩
theorem lw_p48 : lw_okq (⟨"AvalancheInn$Memory", "workOut", "(LAvalancheInn$Hill;LAvalancheInn$Pass;)V"⟩, 12) := ⟨⟨by decide +kernel, by decide +kernel⟩, List.mem_of_getElem? (i := 274) (by decide +kernel), List.mem_of_getElem? (i := 1223) (by decide +kernel), List.mem_of_getElem? (i := 1224) (by decide +kernel)⟩
theorem lw_p49 : lw_okq (⟨"AvalancheInn$Memory", "allSo", "(II)Z"⟩, 12) := ⟨⟨by decide +kernel, by decide +kernel⟩, List.mem_of_getElem? (i := 274) (by decide +kernel), List.mem_of_getElem? (i := 1230) (by decide +kernel), List.mem_of_getElem? (i := 1231) (by decide +kernel)⟩
theorem lw_p50 : lw_okq (⟨"AvalancheInn$Memory", "mostAlike", "(I)I"⟩, 12) := ⟨⟨by decide +kernel, by decide +kernel⟩, List.mem_of_getElem? (i := 274) (by decide +kernel), List.mem_of_getElem? (i := 1250) (by decide +kernel), List.mem_of_getElem? (i := 1251) (by decide +kernel)⟩
theorem lw_p51 : lw_okq (⟨"AvalancheInnModel", "clearBank", "()V"⟩, 77) := ⟨⟨by decide +kernel, by decide +kernel⟩, List.mem_of_getElem? (i := 1268) (by decide +kernel), List.mem_of_getElem? (i := 1274) (by decide +kernel), List.mem_of_getElem? (i := 1275) (by decide +kernel)⟩
theorem lw_p52 : lw_okq (⟨"AvalancheInnModel", "startAnew", "()V"⟩, 77) := ⟨⟨by decide +kernel, by decide +kernel⟩, List.mem_of_getElem? (i := 1268) (by decide +kernel), List.mem_of_getElem? (i := 1278) (by decide +kernel), List.mem_of_getElem? (i := 1279) (by decide +kernel)⟩
theorem lw_p53 : lw_okq (⟨"AvalancheInnModel", "layTold", "()V"⟩, 77) := ⟨⟨by decide +kernel, by decide +kernel⟩, List.mem_of_getElem? (i := 1268) (by decide +kernel), List.mem_of_getElem? (i := 1282) (by decide +kernel), List.mem_of_getElem? (i := 1283) (by decide +kernel)⟩
theorem lw_p54 : lw_okq (⟨"AvalancheInnModel", "lots", "()I"⟩, 77) := ⟨⟨by decide +kernel, by decide +kernel⟩, List.mem_of_getElem? (i := 1268) (by decide +kernel), List.mem_of_getElem? (i := 1286) (by decide +kernel), List.mem_of_getElem? (i := 1287) (by decide +kernel)⟩
theorem lw_p55 : lw_okq (⟨"AvalancheInnModel", "goOn", "()V"⟩, 77) := ⟨⟨by decide +kernel, by decide +kernel⟩, List.mem_of_getElem? (i := 1268) (by decide +kernel), List.mem_of_getElem? (i := 1526) (by decide +kernel), List.mem_of_getElem? (i := 1527) (by decide +kernel)⟩
theorem lw_p56 : lw_okq (⟨"AvalancheInnModel", "sign", "(I)I"⟩, 77) := ⟨⟨by decide +kernel, by decide +kernel⟩, List.mem_of_getElem? (i := 1268) (by decide +kernel), List.mem_of_getElem? (i := 1530) (by decide +kernel), List.mem_of_getElem? (i := 1531) (by decide +kernel)⟩
theorem lw_p57 : lw_okq (⟨"AvalancheInnModel", "isGood", "()Z"⟩, 77) := ⟨⟨by decide +kernel, by decide +kernel⟩, List.mem_of_getElem? (i := 1268) (by decide +kernel), List.mem_of_getElem? (i := 1573) (by decide +kernel), List.mem_of_getElem? (i := 1574) (by decide +kernel)⟩
theorem lw_p58 : lw_okq (⟨"AvalancheInnModel", "readLine", "()V"⟩, 77) := ⟨⟨by decide +kernel, by decide +kernel⟩, List.mem_of_getElem? (i := 1268) (by decide +kernel), List.mem_of_getElem? (i := 1577) (by decide +kernel), List.mem_of_getElem? (i := 1578) (by decide +kernel)⟩
theorem lw_p59 : lw_okq (⟨"AvalancheInnModel", "isFull", "()Z"⟩, 77) := ⟨⟨by decide +kernel, by decide +kernel⟩, List.mem_of_getElem? (i := 1268) (by decide +kernel), List.mem_of_getElem? (i := 1581) (by decide +kernel), List.mem_of_getElem? (i := 1582) (by decide +kernel)⟩
theorem lw_p60 : lw_okq (⟨"AvalancheInnModel", "isWord", "(J)Z"⟩, 77) := ⟨⟨by decide +kernel, by decide +kernel⟩, List.mem_of_getElem? (i := 1268) (by decide +kernel), List.mem_of_getElem? (i := 1585) (by decide +kernel), List.mem_of_getElem? (i := 1586) (by decide +kernel)⟩
theorem lw_p61 : lw_okq (⟨"AvalancheInnModel", "misplaced", "()V"⟩, 77) := ⟨⟨by decide +kernel, by decide +kernel⟩, List.mem_of_getElem? (i := 1268) (by decide +kernel), List.mem_of_getElem? (i := 1592) (by decide +kernel), List.mem_of_getElem? (i := 1593) (by decide +kernel)⟩
theorem lw_p62 : lw_okq (⟨"AvalancheInnModel", "fails", "(II)V"⟩, 77) := ⟨⟨by decide +kernel, by decide +kernel⟩, List.mem_of_getElem? (i := 1268) (by decide +kernel), List.mem_of_getElem? (i := 1596) (by decide +kernel), List.mem_of_getElem? (i := 1597) (by decide +kernel)⟩
theorem lw_p63 : lw_okq (⟨"AvalancheInnModel", "once", "(III)I"⟩, 77) := ⟨⟨by decide +kernel, by decide +kernel⟩, List.mem_of_getElem? (i := 1268) (by decide +kernel), List.mem_of_getElem? (i := 1600) (by decide +kernel), List.mem_of_getElem? (i := 1601) (by decide +kernel)⟩
def lw_privs_4 : List (MethodName × Nat) := [(⟨"AvalancheInn$Memory", "workOut", "(LAvalancheInn$Hill;LAvalancheInn$Pass;)V"⟩, 12), (⟨"AvalancheInn$Memory", "allSo", "(II)Z"⟩, 12), (⟨"AvalancheInn$Memory", "mostAlike", "(I)I"⟩, 12), (⟨"AvalancheInnModel", "clearBank", "()V"⟩, 77), (⟨"AvalancheInnModel", "startAnew", "()V"⟩, 77), (⟨"AvalancheInnModel", "layTold", "()V"⟩, 77), (⟨"AvalancheInnModel", "lots", "()I"⟩, 77), (⟨"AvalancheInnModel", "goOn", "()V"⟩, 77), (⟨"AvalancheInnModel", "sign", "(I)I"⟩, 77), (⟨"AvalancheInnModel", "isGood", "()Z"⟩, 77), (⟨"AvalancheInnModel", "readLine", "()V"⟩, 77), (⟨"AvalancheInnModel", "isFull", "()Z"⟩, 77), (⟨"AvalancheInnModel", "isWord", "(J)Z"⟩, 77), (⟨"AvalancheInnModel", "misplaced", "()V"⟩, 77), (⟨"AvalancheInnModel", "fails", "(II)V"⟩, 77), (⟨"AvalancheInnModel", "once", "(III)I"⟩, 77)]
theorem lw_r4 : ∀ q ∈ lw_privs_4, lw_okq q := List.forall_mem_cons.mpr ⟨lw_p48, List.forall_mem_cons.mpr ⟨lw_p49, List.forall_mem_cons.mpr ⟨lw_p50, List.forall_mem_cons.mpr ⟨lw_p51, List.forall_mem_cons.mpr ⟨lw_p52, List.forall_mem_cons.mpr ⟨lw_p53, List.forall_mem_cons.mpr ⟨lw_p54, List.forall_mem_cons.mpr ⟨lw_p55, List.forall_mem_cons.mpr ⟨lw_p56, List.forall_mem_cons.mpr ⟨lw_p57, List.forall_mem_cons.mpr ⟨lw_p58, List.forall_mem_cons.mpr ⟨lw_p59, List.forall_mem_cons.mpr ⟨lw_p60, List.forall_mem_cons.mpr ⟨lw_p61, List.forall_mem_cons.mpr ⟨lw_p62, List.forall_mem_cons.mpr ⟨lw_p63, fun _ h => absurd h List.not_mem_nil⟩⟩⟩⟩⟩⟩⟩⟩⟩⟩⟩⟩⟩⟩⟩⟩
theorem lw_p64 : lw_okq (⟨"AvalancheInnModel", "numeral", "(III)I"⟩, 77) := ⟨⟨by decide +kernel, by decide +kernel⟩, List.mem_of_getElem? (i := 1268) (by decide +kernel), List.mem_of_getElem? (i := 1604) (by decide +kernel), List.mem_of_getElem? (i := 1605) (by decide +kernel)⟩
theorem lw_p65 : lw_okq (⟨"AvalancheInnModel", "readSlope", "()V"⟩, 77) := ⟨⟨by decide +kernel, by decide +kernel⟩, List.mem_of_getElem? (i := 1268) (by decide +kernel), List.mem_of_getElem? (i := 1608) (by decide +kernel), List.mem_of_getElem? (i := 1609) (by decide +kernel)⟩
theorem lw_p66 : lw_okq (⟨"AvalancheInnModel", "after", "(JII)I"⟩, 77) := ⟨⟨by decide +kernel, by decide +kernel⟩, List.mem_of_getElem? (i := 1268) (by decide +kernel), List.mem_of_getElem? (i := 1612) (by decide +kernel), List.mem_of_getElem? (i := 1613) (by decide +kernel)⟩
theorem lw_p67 : lw_okq (⟨"AvalancheInnModel", "must", "(Z)V"⟩, 77) := ⟨⟨by decide +kernel, by decide +kernel⟩, List.mem_of_getElem? (i := 1268) (by decide +kernel), List.mem_of_getElem? (i := 1616) (by decide +kernel), List.mem_of_getElem? (i := 1617) (by decide +kernel)⟩
theorem lw_p68 : lw_okq (⟨"AvalancheInnModel", "readLies", "()V"⟩, 77) := ⟨⟨by decide +kernel, by decide +kernel⟩, List.mem_of_getElem? (i := 1268) (by decide +kernel), List.mem_of_getElem? (i := 1620) (by decide +kernel), List.mem_of_getElem? (i := 1621) (by decide +kernel)⟩
theorem lw_p69 : lw_okq (⟨"AvalancheInnModel", "cellIn", "(II)I"⟩, 77) := ⟨⟨by decide +kernel, by decide +kernel⟩, List.mem_of_getElem? (i := 1268) (by decide +kernel), List.mem_of_getElem? (i := 1624) (by decide +kernel), List.mem_of_getElem? (i := 1625) (by decide +kernel)⟩
theorem lw_p70 : lw_okq (⟨"AvalancheInnModel", "readWall", "()V"⟩, 77) := ⟨⟨by decide +kernel, by decide +kernel⟩, List.mem_of_getElem? (i := 1268) (by decide +kernel), List.mem_of_getElem? (i := 1628) (by decide +kernel), List.mem_of_getElem? (i := 1629) (by decide +kernel)⟩
theorem lw_p71 : lw_okq (⟨"AvalancheInnModel", "readRoom", "()V"⟩, 77) := ⟨⟨by decide +kernel, by decide +kernel⟩, List.mem_of_getElem? (i := 1268) (by decide +kernel), List.mem_of_getElem? (i := 1632) (by decide +kernel), List.mem_of_getElem? (i := 1633) (by decide +kernel)⟩
theorem lw_p72 : lw_okq (⟨"AvalancheInnModel", "here", "([JII)I"⟩, 77) := ⟨⟨by decide +kernel, by decide +kernel⟩, List.mem_of_getElem? (i := 1268) (by decide +kernel), List.mem_of_getElem? (i := 1636) (by decide +kernel), List.mem_of_getElem? (i := 1637) (by decide +kernel)⟩
theorem lw_p73 : lw_okq (⟨"AvalancheInnModel", "fresh", "(I)J"⟩, 77) := ⟨⟨by decide +kernel, by decide +kernel⟩, List.mem_of_getElem? (i := 1268) (by decide +kernel), List.mem_of_getElem? (i := 1640) (by decide +kernel), List.mem_of_getElem? (i := 1641) (by decide +kernel)⟩
theorem lw_p74 : lw_okq (⟨"AvalancheInnModel", "readGuest", "()V"⟩, 77) := ⟨⟨by decide +kernel, by decide +kernel⟩, List.mem_of_getElem? (i := 1268) (by decide +kernel), List.mem_of_getElem? (i := 1644) (by decide +kernel), List.mem_of_getElem? (i := 1645) (by decide +kernel)⟩
theorem lw_p75 : lw_okq (⟨"AvalancheInnModel", "readRule", "()V"⟩, 77) := ⟨⟨by decide +kernel, by decide +kernel⟩, List.mem_of_getElem? (i := 1268) (by decide +kernel), List.mem_of_getElem? (i := 1648) (by decide +kernel), List.mem_of_getElem? (i := 1649) (by decide +kernel)⟩
theorem lw_p76 : lw_okq (⟨"AvalancheInnModel", "e", "()V"⟩, 77) := ⟨⟨by decide +kernel, by decide +kernel⟩, List.mem_of_getElem? (i := 1268) (by decide +kernel), List.mem_of_getElem? (i := 1652) (by decide +kernel), List.mem_of_getElem? (i := 1653) (by decide +kernel)⟩
theorem lw_p77 : lw_okq (⟨"AvalancheInnModel", "pushE", "(II)V"⟩, 77) := ⟨⟨by decide +kernel, by decide +kernel⟩, List.mem_of_getElem? (i := 1268) (by decide +kernel), List.mem_of_getElem? (i := 1656) (by decide +kernel), List.mem_of_getElem? (i := 1657) (by decide +kernel)⟩
theorem lw_p78 : lw_okq (⟨"AvalancheInnModel", "unit", "()Z"⟩, 77) := ⟨⟨by decide +kernel, by decide +kernel⟩, List.mem_of_getElem? (i := 1268) (by decide +kernel), List.mem_of_getElem? (i := 1660) (by decide +kernel), List.mem_of_getElem? (i := 1661) (by decide +kernel)⟩
theorem lw_p79 : lw_okq (⟨"AvalancheInnModel", "isSignHere", "(I)Z"⟩, 77) := ⟨⟨by decide +kernel, by decide +kernel⟩, List.mem_of_getElem? (i := 1268) (by decide +kernel), List.mem_of_getElem? (i := 1664) (by decide +kernel), List.mem_of_getElem? (i := 1665) (by decide +kernel)⟩
def lw_privs_5 : List (MethodName × Nat) := [(⟨"AvalancheInnModel", "numeral", "(III)I"⟩, 77), (⟨"AvalancheInnModel", "readSlope", "()V"⟩, 77), (⟨"AvalancheInnModel", "after", "(JII)I"⟩, 77), (⟨"AvalancheInnModel", "must", "(Z)V"⟩, 77), (⟨"AvalancheInnModel", "readLies", "()V"⟩, 77), (⟨"AvalancheInnModel", "cellIn", "(II)I"⟩, 77), (⟨"AvalancheInnModel", "readWall", "()V"⟩, 77), (⟨"AvalancheInnModel", "readRoom", "()V"⟩, 77), (⟨"AvalancheInnModel", "here", "([JII)I"⟩, 77), (⟨"AvalancheInnModel", "fresh", "(I)J"⟩, 77), (⟨"AvalancheInnModel", "readGuest", "()V"⟩, 77), (⟨"AvalancheInnModel", "readRule", "()V"⟩, 77), (⟨"AvalancheInnModel", "e", "()V"⟩, 77), (⟨"AvalancheInnModel", "pushE", "(II)V"⟩, 77), (⟨"AvalancheInnModel", "unit", "()Z"⟩, 77), (⟨"AvalancheInnModel", "isSignHere", "(I)Z"⟩, 77)]
theorem lw_r5 : ∀ q ∈ lw_privs_5, lw_okq q := List.forall_mem_cons.mpr ⟨lw_p64, List.forall_mem_cons.mpr ⟨lw_p65, List.forall_mem_cons.mpr ⟨lw_p66, List.forall_mem_cons.mpr ⟨lw_p67, List.forall_mem_cons.mpr ⟨lw_p68, List.forall_mem_cons.mpr ⟨lw_p69, List.forall_mem_cons.mpr ⟨lw_p70, List.forall_mem_cons.mpr ⟨lw_p71, List.forall_mem_cons.mpr ⟨lw_p72, List.forall_mem_cons.mpr ⟨lw_p73, List.forall_mem_cons.mpr ⟨lw_p74, List.forall_mem_cons.mpr ⟨lw_p75, List.forall_mem_cons.mpr ⟨lw_p76, List.forall_mem_cons.mpr ⟨lw_p77, List.forall_mem_cons.mpr ⟨lw_p78, List.forall_mem_cons.mpr ⟨lw_p79, fun _ h => absurd h List.not_mem_nil⟩⟩⟩⟩⟩⟩⟩⟩⟩⟩⟩⟩⟩⟩⟩⟩
theorem lw_p80 : lw_okq (⟨"AvalancheInnModel", "wordHere", "()I"⟩, 77) := ⟨⟨by decide +kernel, by decide +kernel⟩, List.mem_of_getElem? (i := 1268) (by decide +kernel), List.mem_of_getElem? (i := 1668) (by decide +kernel), List.mem_of_getElem? (i := 1669) (by decide +kernel)⟩
theorem lw_p81 : lw_okq (⟨"AvalancheInnModel", "emit", "(II)V"⟩, 77) := ⟨⟨by decide +kernel, by decide +kernel⟩, List.mem_of_getElem? (i := 1268) (by decide +kernel), List.mem_of_getElem? (i := 1672) (by decide +kernel), List.mem_of_getElem? (i := 1673) (by decide +kernel)⟩
theorem lw_p82 : lw_okq (⟨"AvalancheInnModel", "behindUnit", "()Z"⟩, 77) := ⟨⟨by decide +kernel, by decide +kernel⟩, List.mem_of_getElem? (i := 1268) (by decide +kernel), List.mem_of_getElem? (i := 1676) (by decide +kernel), List.mem_of_getElem? (i := 1677) (by decide +kernel)⟩
theorem lw_p83 : lw_okq (⟨"AvalancheInnModel", "rankHere", "()I"⟩, 77) := ⟨⟨by decide +kernel, by decide +kernel⟩, List.mem_of_getElem? (i := 1268) (by decide +kernel), List.mem_of_getElem? (i := 1680) (by decide +kernel), List.mem_of_getElem? (i := 1681) (by decide +kernel)⟩
theorem lw_p84 : lw_okq (⟨"AvalancheInnModel", "isCompared", "()Z"⟩, 77) := ⟨⟨by decide +kernel, by decide +kernel⟩, List.mem_of_getElem? (i := 1268) (by decide +kernel), List.mem_of_getElem? (i := 1684) (by decide +kernel), List.mem_of_getElem? (i := 1685) (by decide +kernel)⟩
theorem lw_p85 : lw_okq (⟨"AvalancheInnModel", "isCell", "(II)Z"⟩, 77) := ⟨⟨by decide +kernel, by decide +kernel⟩, List.mem_of_getElem? (i := 1268) (by decide +kernel), List.mem_of_getElem? (i := 1696) (by decide +kernel), List.mem_of_getElem? (i := 1697) (by decide +kernel)⟩
theorem lw_p86 : lw_okq (⟨"AvalancheInnModel", "isLane", "(I)Z"⟩, 77) := ⟨⟨by decide +kernel, by decide +kernel⟩, List.mem_of_getElem? (i := 1268) (by decide +kernel), List.mem_of_getElem? (i := 1700) (by decide +kernel), List.mem_of_getElem? (i := 1701) (by decide +kernel)⟩
theorem lw_p87 : lw_okq (⟨"AvalancheInnModel", "wide", "()I"⟩, 77) := ⟨⟨by decide +kernel, by decide +kernel⟩, List.mem_of_getElem? (i := 1268) (by decide +kernel), List.mem_of_getElem? (i := 1704) (by decide +kernel), List.mem_of_getElem? (i := 1705) (by decide +kernel)⟩
theorem lw_p88 : lw_okq (⟨"AvalancheInnModel", "deep", "()I"⟩, 77) := ⟨⟨by decide +kernel, by decide +kernel⟩, List.mem_of_getElem? (i := 1268) (by decide +kernel), List.mem_of_getElem? (i := 1711) (by decide +kernel), List.mem_of_getElem? (i := 1712) (by decide +kernel)⟩
theorem lw_p89 : lw_okq (⟨"AvalancheInnModel", "snowIn", "(II)I"⟩, 77) := ⟨⟨by decide +kernel, by decide +kernel⟩, List.mem_of_getElem? (i := 1268) (by decide +kernel), List.mem_of_getElem? (i := 1715) (by decide +kernel), List.mem_of_getElem? (i := 1716) (by decide +kernel)⟩
theorem lw_p90 : lw_okq (⟨"AvalancheInnModel", "wallAt", "(II)I"⟩, 77) := ⟨⟨by decide +kernel, by decide +kernel⟩, List.mem_of_getElem? (i := 1268) (by decide +kernel), List.mem_of_getElem? (i := 1719) (by decide +kernel), List.mem_of_getElem? (i := 1720) (by decide +kernel)⟩
theorem lw_p91 : lw_okq (⟨"AvalancheInnModel", "doesTip", "(III)Z"⟩, 77) := ⟨⟨by decide +kernel, by decide +kernel⟩, List.mem_of_getElem? (i := 1268) (by decide +kernel), List.mem_of_getElem? (i := 1723) (by decide +kernel), List.mem_of_getElem? (i := 1724) (by decide +kernel)⟩
theorem lw_p92 : lw_okq (⟨"AvalancheInnModel", "noiseIn", "(I)I"⟩, 77) := ⟨⟨by decide +kernel, by decide +kernel⟩, List.mem_of_getElem? (i := 1268) (by decide +kernel), List.mem_of_getElem? (i := 1727) (by decide +kernel), List.mem_of_getElem? (i := 1728) (by decide +kernel)⟩
theorem lw_p93 : lw_okq (⟨"AvalancheInnModel", "guestRoom", "(I)I"⟩, 77) := ⟨⟨by decide +kernel, by decide +kernel⟩, List.mem_of_getElem? (i := 1268) (by decide +kernel), List.mem_of_getElem? (i := 1731) (by decide +kernel), List.mem_of_getElem? (i := 1732) (by decide +kernel)⟩
theorem lw_p94 : lw_okq (⟨"AvalancheInnModel", "isAwake", "(II)Z"⟩, 77) := ⟨⟨by decide +kernel, by decide +kernel⟩, List.mem_of_getElem? (i := 1268) (by decide +kernel), List.mem_of_getElem? (i := 1735) (by decide +kernel), List.mem_of_getElem? (i := 1736) (by decide +kernel)⟩
theorem lw_p95 : lw_okq (⟨"AvalancheInnModel", "doesStand", "(I)Z"⟩, 77) := ⟨⟨by decide +kernel, by decide +kernel⟩, List.mem_of_getElem? (i := 1268) (by decide +kernel), List.mem_of_getElem? (i := 1739) (by decide +kernel), List.mem_of_getElem? (i := 1740) (by decide +kernel)⟩
def lw_privs_6 : List (MethodName × Nat) := [(⟨"AvalancheInnModel", "wordHere", "()I"⟩, 77), (⟨"AvalancheInnModel", "emit", "(II)V"⟩, 77), (⟨"AvalancheInnModel", "behindUnit", "()Z"⟩, 77), (⟨"AvalancheInnModel", "rankHere", "()I"⟩, 77), (⟨"AvalancheInnModel", "isCompared", "()Z"⟩, 77), (⟨"AvalancheInnModel", "isCell", "(II)Z"⟩, 77), (⟨"AvalancheInnModel", "isLane", "(I)Z"⟩, 77), (⟨"AvalancheInnModel", "wide", "()I"⟩, 77), (⟨"AvalancheInnModel", "deep", "()I"⟩, 77), (⟨"AvalancheInnModel", "snowIn", "(II)I"⟩, 77), (⟨"AvalancheInnModel", "wallAt", "(II)I"⟩, 77), (⟨"AvalancheInnModel", "doesTip", "(III)Z"⟩, 77), (⟨"AvalancheInnModel", "noiseIn", "(I)I"⟩, 77), (⟨"AvalancheInnModel", "guestRoom", "(I)I"⟩, 77), (⟨"AvalancheInnModel", "isAwake", "(II)Z"⟩, 77), (⟨"AvalancheInnModel", "doesStand", "(I)Z"⟩, 77)]
theorem lw_r6 : ∀ q ∈ lw_privs_6, lw_okq q := List.forall_mem_cons.mpr ⟨lw_p80, List.forall_mem_cons.mpr ⟨lw_p81, List.forall_mem_cons.mpr ⟨lw_p82, List.forall_mem_cons.mpr ⟨lw_p83, List.forall_mem_cons.mpr ⟨lw_p84, List.forall_mem_cons.mpr ⟨lw_p85, List.forall_mem_cons.mpr ⟨lw_p86, List.forall_mem_cons.mpr ⟨lw_p87, List.forall_mem_cons.mpr ⟨lw_p88, List.forall_mem_cons.mpr ⟨lw_p89, List.forall_mem_cons.mpr ⟨lw_p90, List.forall_mem_cons.mpr ⟨lw_p91, List.forall_mem_cons.mpr ⟨lw_p92, List.forall_mem_cons.mpr ⟨lw_p93, List.forall_mem_cons.mpr ⟨lw_p94, List.forall_mem_cons.mpr ⟨lw_p95, fun _ h => absurd h List.not_mem_nil⟩⟩⟩⟩⟩⟩⟩⟩⟩⟩⟩⟩⟩⟩⟩⟩
theorem lw_p96 : lw_okq (⟨"AvalancheInnModel", "comes", "()I"⟩, 77) := ⟨⟨by decide +kernel, by decide +kernel⟩, List.mem_of_getElem? (i := 1268) (by decide +kernel), List.mem_of_getElem? (i := 1743) (by decide +kernel), List.mem_of_getElem? (i := 1744) (by decide +kernel)⟩
theorem lw_p97 : lw_okq (⟨"AvalancheInnModel", "asked", "(II)I"⟩, 77) := ⟨⟨by decide +kernel, by decide +kernel⟩, List.mem_of_getElem? (i := 1268) (by decide +kernel), List.mem_of_getElem? (i := 1747) (by decide +kernel), List.mem_of_getElem? (i := 1748) (by decide +kernel)⟩
theorem lw_p98 : lw_okq (⟨"AvalancheInnModel", "isRoom", "(I)Z"⟩, 77) := ⟨⟨by decide +kernel, by decide +kernel⟩, List.mem_of_getElem? (i := 1268) (by decide +kernel), List.mem_of_getElem? (i := 1758) (by decide +kernel), List.mem_of_getElem? (i := 1759) (by decide +kernel)⟩
theorem lw_p99 : lw_okq (⟨"AvalancheInnModel", "isGuest", "(I)Z"⟩, 77) := ⟨⟨by decide +kernel, by decide +kernel⟩, List.mem_of_getElem? (i := 1268) (by decide +kernel), List.mem_of_getElem? (i := 1766) (by decide +kernel), List.mem_of_getElem? (i := 1767) (by decide +kernel)⟩
theorem lw_p100 : lw_okq (⟨"AvalancheInnModel", "slide", "(IIZ)V"⟩, 77) := ⟨⟨by decide +kernel, by decide +kernel⟩, List.mem_of_getElem? (i := 1268) (by decide +kernel), List.mem_of_getElem? (i := 1786) (by decide +kernel), List.mem_of_getElem? (i := 1787) (by decide +kernel)⟩
theorem lw_p101 : lw_okq (⟨"AvalancheInnModel", "someTips", "(II)Z"⟩, 77) := ⟨⟨by decide +kernel, by decide +kernel⟩, List.mem_of_getElem? (i := 1268) (by decide +kernel), List.mem_of_getElem? (i := 1798) (by decide +kernel), List.mem_of_getElem? (i := 1799) (by decide +kernel)⟩
theorem lw_p102 : lw_okq (⟨"AvalancheInnModel", "keepAct", "()V"⟩, 77) := ⟨⟨by decide +kernel, by decide +kernel⟩, List.mem_of_getElem? (i := 1268) (by decide +kernel), List.mem_of_getElem? (i := 1806) (by decide +kernel), List.mem_of_getElem? (i := 1807) (by decide +kernel)⟩
theorem lw_p103 : lw_okq (⟨"AvalancheInnModel", "goHour", "(Z)V"⟩, 77) := ⟨⟨by decide +kernel, by decide +kernel⟩, List.mem_of_getElem? (i := 1268) (by decide +kernel), List.mem_of_getElem? (i := 1810) (by decide +kernel), List.mem_of_getElem? (i := 1811) (by decide +kernel)⟩
theorem lw_p104 : lw_okq (⟨"AvalancheInnModel", "addSnow", "(III)V"⟩, 77) := ⟨⟨by decide +kernel, by decide +kernel⟩, List.mem_of_getElem? (i := 1268) (by decide +kernel), List.mem_of_getElem? (i := 1814) (by decide +kernel), List.mem_of_getElem? (i := 1815) (by decide +kernel)⟩
theorem lw_p105 : lw_okq (⟨"AvalancheInnModel", "tip", "(III)V"⟩, 77) := ⟨⟨by decide +kernel, by decide +kernel⟩, List.mem_of_getElem? (i := 1268) (by decide +kernel), List.mem_of_getElem? (i := 1821) (by decide +kernel), List.mem_of_getElem? (i := 1822) (by decide +kernel)⟩
theorem lw_p106 : lw_okq (⟨"AvalancheInnModel", "ratesNow", "()I"⟩, 77) := ⟨⟨by decide +kernel, by decide +kernel⟩, List.mem_of_getElem? (i := 1268) (by decide +kernel), List.mem_of_getElem? (i := 1825) (by decide +kernel), List.mem_of_getElem? (i := 1826) (by decide +kernel)⟩
theorem lw_p107 : lw_okq (⟨"AvalancheInnModel", "goShout", "(II)I"⟩, 77) := ⟨⟨by decide +kernel, by decide +kernel⟩, List.mem_of_getElem? (i := 1268) (by decide +kernel), List.mem_of_getElem? (i := 1833) (by decide +kernel), List.mem_of_getElem? (i := 1834) (by decide +kernel)⟩
theorem lw_p108 : lw_okq (⟨"AvalancheInnModel", "turnHushed", "(I)I"⟩, 77) := ⟨⟨by decide +kernel, by decide +kernel⟩, List.mem_of_getElem? (i := 1268) (by decide +kernel), List.mem_of_getElem? (i := 1852) (by decide +kernel), List.mem_of_getElem? (i := 1853) (by decide +kernel)⟩
theorem lw_p109 : lw_okq (⟨"AvalancheInnModel", "swapAll", "()V"⟩, 77) := ⟨⟨by decide +kernel, by decide +kernel⟩, List.mem_of_getElem? (i := 1268) (by decide +kernel), List.mem_of_getElem? (i := 1872) (by decide +kernel), List.mem_of_getElem? (i := 1873) (by decide +kernel)⟩
theorem lw_p110 : lw_okq (⟨"AvalancheInnModel", "keepNow", "()V"⟩, 77) := ⟨⟨by decide +kernel, by decide +kernel⟩, List.mem_of_getElem? (i := 1268) (by decide +kernel), List.mem_of_getElem? (i := 1884) (by decide +kernel), List.mem_of_getElem? (i := 1885) (by decide +kernel)⟩
theorem lw_p111 : lw_okq (⟨"AvalancheInnModel", "bringBack", "()V"⟩, 77) := ⟨⟨by decide +kernel, by decide +kernel⟩, List.mem_of_getElem? (i := 1268) (by decide +kernel), List.mem_of_getElem? (i := 1888) (by decide +kernel), List.mem_of_getElem? (i := 1889) (by decide +kernel)⟩
def lw_privs_7 : List (MethodName × Nat) := [(⟨"AvalancheInnModel", "comes", "()I"⟩, 77), (⟨"AvalancheInnModel", "asked", "(II)I"⟩, 77), (⟨"AvalancheInnModel", "isRoom", "(I)Z"⟩, 77), (⟨"AvalancheInnModel", "isGuest", "(I)Z"⟩, 77), (⟨"AvalancheInnModel", "slide", "(IIZ)V"⟩, 77), (⟨"AvalancheInnModel", "someTips", "(II)Z"⟩, 77), (⟨"AvalancheInnModel", "keepAct", "()V"⟩, 77), (⟨"AvalancheInnModel", "goHour", "(Z)V"⟩, 77), (⟨"AvalancheInnModel", "addSnow", "(III)V"⟩, 77), (⟨"AvalancheInnModel", "tip", "(III)V"⟩, 77), (⟨"AvalancheInnModel", "ratesNow", "()I"⟩, 77), (⟨"AvalancheInnModel", "goShout", "(II)I"⟩, 77), (⟨"AvalancheInnModel", "turnHushed", "(I)I"⟩, 77), (⟨"AvalancheInnModel", "swapAll", "()V"⟩, 77), (⟨"AvalancheInnModel", "keepNow", "()V"⟩, 77), (⟨"AvalancheInnModel", "bringBack", "()V"⟩, 77)]
theorem lw_r7 : ∀ q ∈ lw_privs_7, lw_okq q := List.forall_mem_cons.mpr ⟨lw_p96, List.forall_mem_cons.mpr ⟨lw_p97, List.forall_mem_cons.mpr ⟨lw_p98, List.forall_mem_cons.mpr ⟨lw_p99, List.forall_mem_cons.mpr ⟨lw_p100, List.forall_mem_cons.mpr ⟨lw_p101, List.forall_mem_cons.mpr ⟨lw_p102, List.forall_mem_cons.mpr ⟨lw_p103, List.forall_mem_cons.mpr ⟨lw_p104, List.forall_mem_cons.mpr ⟨lw_p105, List.forall_mem_cons.mpr ⟨lw_p106, List.forall_mem_cons.mpr ⟨lw_p107, List.forall_mem_cons.mpr ⟨lw_p108, List.forall_mem_cons.mpr ⟨lw_p109, List.forall_mem_cons.mpr ⟨lw_p110, List.forall_mem_cons.mpr ⟨lw_p111, fun _ h => absurd h List.not_mem_nil⟩⟩⟩⟩⟩⟩⟩⟩⟩⟩⟩⟩⟩⟩⟩⟩
theorem lw_p112 : lw_okq (⟨"AvalancheInnModel", "goHours", "(I)V"⟩, 77) := ⟨⟨by decide +kernel, by decide +kernel⟩, List.mem_of_getElem? (i := 1268) (by decide +kernel), List.mem_of_getElem? (i := 1896) (by decide +kernel), List.mem_of_getElem? (i := 1897) (by decide +kernel)⟩
theorem lw_p113 : lw_okq (⟨"AvalancheInnModel", "leftBehind", "(I)I"⟩, 77) := ⟨⟨by decide +kernel, by decide +kernel⟩, List.mem_of_getElem? (i := 1268) (by decide +kernel), List.mem_of_getElem? (i := 1904) (by decide +kernel), List.mem_of_getElem? (i := 1905) (by decide +kernel)⟩
theorem lw_p114 : lw_okq (⟨"AvalancheInnModel", "leftIn", "(I)I"⟩, 77) := ⟨⟨by decide +kernel, by decide +kernel⟩, List.mem_of_getElem? (i := 1268) (by decide +kernel), List.mem_of_getElem? (i := 1908) (by decide +kernel), List.mem_of_getElem? (i := 1909) (by decide +kernel)⟩
theorem lw_p115 : lw_okq (⟨"AvalancheInnModel", "goneIn", "(I)I"⟩, 77) := ⟨⟨by decide +kernel, by decide +kernel⟩, List.mem_of_getElem? (i := 1268) (by decide +kernel), List.mem_of_getElem? (i := 1920) (by decide +kernel), List.mem_of_getElem? (i := 1921) (by decide +kernel)⟩
theorem lw_p116 : lw_okq (⟨"AvalancheInnModel", "soonestIn", "(I)I"⟩, 77) := ⟨⟨by decide +kernel, by decide +kernel⟩, List.mem_of_getElem? (i := 1268) (by decide +kernel), List.mem_of_getElem? (i := 1933) (by decide +kernel), List.mem_of_getElem? (i := 1934) (by decide +kernel)⟩
theorem lw_p117 : lw_okq (⟨"AvalancheInnModel", "bruntOf", "(II)I"⟩, 77) := ⟨⟨by decide +kernel, by decide +kernel⟩, List.mem_of_getElem? (i := 1268) (by decide +kernel), List.mem_of_getElem? (i := 1945) (by decide +kernel), List.mem_of_getElem? (i := 1946) (by decide +kernel)⟩
theorem lw_p118 : lw_okq (⟨"AvalancheInnModel", "isPlaced", "(I)Z"⟩, 77) := ⟨⟨by decide +kernel, by decide +kernel⟩, List.mem_of_getElem? (i := 1268) (by decide +kernel), List.mem_of_getElem? (i := 1968) (by decide +kernel), List.mem_of_getElem? (i := 1969) (by decide +kernel)⟩
theorem lw_p119 : lw_okq (⟨"AvalancheInnModel", "laneIn", "(II)I"⟩, 77) := ⟨⟨by decide +kernel, by decide +kernel⟩, List.mem_of_getElem? (i := 1268) (by decide +kernel), List.mem_of_getElem? (i := 1972) (by decide +kernel), List.mem_of_getElem? (i := 1973) (by decide +kernel)⟩
theorem lw_p120 : lw_okq (⟨"AvalancheInnModel", "sing", "(II)V"⟩, 77) := ⟨⟨by decide +kernel, by decide +kernel⟩, List.mem_of_getElem? (i := 1268) (by decide +kernel), List.mem_of_getElem? (i := 1996) (by decide +kernel), List.mem_of_getElem? (i := 1997) (by decide +kernel)⟩
theorem lw_p121 : lw_okq (⟨"AvalancheInnModel", "gainOf", "(III)I"⟩, 77) := ⟨⟨by decide +kernel, by decide +kernel⟩, List.mem_of_getElem? (i := 1268) (by decide +kernel), List.mem_of_getElem? (i := 2000) (by decide +kernel), List.mem_of_getElem? (i := 2001) (by decide +kernel)⟩
theorem lw_p122 : lw_okq (⟨"AvalancheInnModel", "layGone", "()V"⟩, 77) := ⟨⟨by decide +kernel, by decide +kernel⟩, List.mem_of_getElem? (i := 1268) (by decide +kernel), List.mem_of_getElem? (i := 2028) (by decide +kernel), List.mem_of_getElem? (i := 2029) (by decide +kernel)⟩
theorem lw_p123 : lw_okq (⟨"AvalancheInnModel", "doesFit", "(II)Z"⟩, 77) := ⟨⟨by decide +kernel, by decide +kernel⟩, List.mem_of_getElem? (i := 1268) (by decide +kernel), List.mem_of_getElem? (i := 2032) (by decide +kernel), List.mem_of_getElem? (i := 2033) (by decide +kernel)⟩
theorem lw_p124 : lw_okq (⟨"AvalancheInnModel", "goneBy", "(II)I"⟩, 77) := ⟨⟨by decide +kernel, by decide +kernel⟩, List.mem_of_getElem? (i := 1268) (by decide +kernel), List.mem_of_getElem? (i := 2036) (by decide +kernel), List.mem_of_getElem? (i := 2037) (by decide +kernel)⟩
theorem lw_p125 : lw_okq (⟨"AvalancheInnModel", "mostBehind", "(II)I"⟩, 77) := ⟨⟨by decide +kernel, by decide +kernel⟩, List.mem_of_getElem? (i := 1268) (by decide +kernel), List.mem_of_getElem? (i := 2049) (by decide +kernel), List.mem_of_getElem? (i := 2050) (by decide +kernel)⟩
def lw_privs_8 : List (MethodName × Nat) := [(⟨"AvalancheInnModel", "goHours", "(I)V"⟩, 77), (⟨"AvalancheInnModel", "leftBehind", "(I)I"⟩, 77), (⟨"AvalancheInnModel", "leftIn", "(I)I"⟩, 77), (⟨"AvalancheInnModel", "goneIn", "(I)I"⟩, 77), (⟨"AvalancheInnModel", "soonestIn", "(I)I"⟩, 77), (⟨"AvalancheInnModel", "bruntOf", "(II)I"⟩, 77), (⟨"AvalancheInnModel", "isPlaced", "(I)Z"⟩, 77), (⟨"AvalancheInnModel", "laneIn", "(II)I"⟩, 77), (⟨"AvalancheInnModel", "sing", "(II)V"⟩, 77), (⟨"AvalancheInnModel", "gainOf", "(III)I"⟩, 77), (⟨"AvalancheInnModel", "layGone", "()V"⟩, 77), (⟨"AvalancheInnModel", "doesFit", "(II)Z"⟩, 77), (⟨"AvalancheInnModel", "goneBy", "(II)I"⟩, 77), (⟨"AvalancheInnModel", "mostBehind", "(II)I"⟩, 77)]
theorem lw_r8 : ∀ q ∈ lw_privs_8, lw_okq q := List.forall_mem_cons.mpr ⟨lw_p112, List.forall_mem_cons.mpr ⟨lw_p113, List.forall_mem_cons.mpr ⟨lw_p114, List.forall_mem_cons.mpr ⟨lw_p115, List.forall_mem_cons.mpr ⟨lw_p116, List.forall_mem_cons.mpr ⟨lw_p117, List.forall_mem_cons.mpr ⟨lw_p118, List.forall_mem_cons.mpr ⟨lw_p119, List.forall_mem_cons.mpr ⟨lw_p120, List.forall_mem_cons.mpr ⟨lw_p121, List.forall_mem_cons.mpr ⟨lw_p122, List.forall_mem_cons.mpr ⟨lw_p123, List.forall_mem_cons.mpr ⟨lw_p124, List.forall_mem_cons.mpr ⟨lw_p125, fun _ h => absurd h List.not_mem_nil⟩⟩⟩⟩⟩⟩⟩⟩⟩⟩⟩⟩⟩⟩
def lw_privs : List (MethodName × Nat) := lw_privs_1 ++ (lw_privs_2 ++ (lw_privs_3 ++ (lw_privs_4 ++ (lw_privs_5 ++ (lw_privs_6 ++ (lw_privs_7 ++ (lw_privs_8)))))))
def lw_tbl : List Cond := k2_sels lw_privs ++ tables_1
theorem lw_privs_ok : ∀ q ∈ lw_privs, lw_okq q := by
  show ∀ q ∈ lw_privs_1 ++ (lw_privs_2 ++ (lw_privs_3 ++ (lw_privs_4 ++ (lw_privs_5 ++ (lw_privs_6 ++ (lw_privs_7 ++ (lw_privs_8))))))), lw_okq q
  exact List.forall_mem_append.mpr ⟨lw_r1, List.forall_mem_append.mpr ⟨lw_r2, List.forall_mem_append.mpr ⟨lw_r3, List.forall_mem_append.mpr ⟨lw_r4, List.forall_mem_append.mpr ⟨lw_r5, List.forall_mem_append.mpr ⟨lw_r6, List.forall_mem_append.mpr ⟨lw_r7, lw_r8⟩⟩⟩⟩⟩⟩⟩
-- ===== end of PART A; then your names; then what follows =====
def RX0 : String := "AvalancheInn$Formula"
def TX0 : u_T := fun k => match k with
  | 0 => ("AvalancheInn$Formula", "kinds", "[I", true)
  | 1 => ("AvalancheInn$Formula", "numbers", "[I", true)
  | 2 => ("AvalancheInn$Formula", "stack", "[I", true)
  | 3 => ("AvalancheInn$Formula", "steps", "I", false)
  | 4 => ("AvalancheInn$Formula", "usual", "Z", false)
  | 5 => ("AvalancheInn$Formula", "units", "I", false)
  | _ => ("AvalancheInn$Formula", "heedsNoise", "Z", false)
def tyX0 : Nat → FieldType := fun k => match k with
  | 0 => .array .int
  | 1 => .array .int
  | 2 => .array .int
  | 3 => .int
  | 4 => .boolean
  | 5 => .int
  | _ => .boolean
abbrev wsX00 : List Cond := u_ws RX0 TX0 7
theorem nmX0 : ∀ a, a < 7 → ∀ b, b < 7 → a ≠ b → (TX0 a).2.1 ≠ (TX0 b).2.1 := by decide +kernel
theorem tyX0_ok : ∀ k, k < 7 → parseFieldDescriptor (TX0 k).2.2.1 = some (tyX0 k) := by decide +kernel
def RX1 : String := "AvalancheInn$Hill"
def TX1 : u_T := fun k => match k with
  | 0 => ("AvalancheInn$Hill", "supposed", "LAvalancheInn$State;", true)
  | 1 => ("AvalancheInn$Hill", "facts", "[I", true)
  | 2 => ("AvalancheInn$Hill", "pass", "LAvalancheInn$Pass;", false)
  | 3 => ("AvalancheInn$Hill", "state", "LAvalancheInn$State;", false)
  | 4 => ("AvalancheInn$Hill", "noises", "[I", true)
  | 5 => ("AvalancheInn$Hill", "brunts", "[I", true)
  | 6 => ("AvalancheInn$Hill", "heaviest", "[I", true)
  | 7 => ("AvalancheInn$Hill", "tipped", "I", false)
  | 8 => ("AvalancheInn$Hill", "endLane", "I", false)
  | _ => ("AvalancheInn$Hill", "endLoad", "I", false)
def tyX1 : Nat → FieldType := fun k => match k with
  | 0 => .object "AvalancheInn$State"
  | 1 => .array .int
  | 2 => .object "AvalancheInn$Pass"
  | 3 => .object "AvalancheInn$State"
  | 4 => .array .int
  | 5 => .array .int
  | 6 => .array .int
  | 7 => .int
  | 8 => .int
  | _ => .int
abbrev wsX10 : List Cond := u_ws RX1 TX1 10
theorem nmX1 : ∀ a, a < 10 → ∀ b, b < 10 → a ≠ b → (TX1 a).2.1 ≠ (TX1 b).2.1 := by decide +kernel
theorem tyX1_ok : ∀ k, k < 10 → parseFieldDescriptor (TX1 k).2.2.1 = some (tyX1 k) := by decide +kernel
def RX2 : String := "AvalancheInn$Journal"
def TX2 : u_T := fun k => match k with
  | 0 => ("AvalancheInn$Journal", "ring", "[LAvalancheInn$State;", true)
  | 1 => ("AvalancheInn$Journal", "at", "I", false)
  | 2 => ("AvalancheInn$Journal", "undoable", "I", false)
  | _ => ("AvalancheInn$Journal", "redoable", "I", false)
def tyX2 : Nat → FieldType := fun k => match k with
  | 0 => .array (.object "AvalancheInn$State")
  | 1 => .int
  | 2 => .int
  | _ => .int
abbrev wsX20 : List Cond := u_ws RX2 TX2 4
theorem nmX2 : ∀ a, a < 4 → ∀ b, b < 4 → a ≠ b → (TX2 a).2.1 ≠ (TX2 b).2.1 := by decide +kernel
theorem tyX2_ok : ∀ k, k < 4 → parseFieldDescriptor (TX2 k).2.2.1 = some (tyX2 k) := by decide +kernel
def RX3 : String := "AvalancheInn$Lexer"
def TX3 : u_T := fun k => match k with
  | 0 => ("AvalancheInn$Lexer", "text", "[B", false)
  | 1 => ("AvalancheInn$Lexer", "words", "[J", true)
  | 2 => ("AvalancheInn$Lexer", "length", "I", false)
  | 3 => ("AvalancheInn$Lexer", "at", "I", false)
  | 4 => ("AvalancheInn$Lexer", "kind", "I", false)
  | 5 => ("AvalancheInn$Lexer", "place", "I", false)
  | 6 => ("AvalancheInn$Lexer", "value", "I", false)
  | _ => ("AvalancheInn$Lexer", "letters", "J", false)
def tyX3 : Nat → FieldType := fun k => match k with
  | 0 => .array .byte
  | 1 => .array .long
  | 2 => .int
  | 3 => .int
  | 4 => .int
  | 5 => .int
  | 6 => .int
  | _ => .long
abbrev wsX30 : List Cond := u_ws RX3 TX3 8
theorem nmX3 : ∀ a, a < 8 → ∀ b, b < 8 → a ≠ b → (TX3 a).2.1 ≠ (TX3 b).2.1 := by decide +kernel
theorem tyX3_ok : ∀ k, k < 8 → parseFieldDescriptor (TX3 k).2.2.1 = some (tyX3 k) := by decide +kernel
def RX4 : String := "AvalancheInn$Memory"
def TX4 : u_T := fun k => match k with
  | 0 => ("AvalancheInn$Memory", "hours", "[I", true)
  | 1 => ("AvalancheInn$Memory", "rooms", "[I", true)
  | 2 => ("AvalancheInn$Memory", "wasGone", "[Z", true)
  | 3 => ("AvalancheInn$Memory", "toldAt", "[I", true)
  | 4 => ("AvalancheInn$Memory", "untoldAt", "[I", true)
  | 5 => ("AvalancheInn$Memory", "goneBy", "[I", true)
  | 6 => ("AvalancheInn$Memory", "workedOut", "Z", false)
  | 7 => ("AvalancheInn$Memory", "count", "I", false)
  | 8 => ("AvalancheInn$Memory", "time", "I", false)
  | 9 => ("AvalancheInn$Memory", "fitting", "I", false)
  | 10 => ("AvalancheInn$Memory", "questionHours", "I", false)
  | _ => ("AvalancheInn$Memory", "questionLeft", "I", false)
def tyX4 : Nat → FieldType := fun k => match k with
  | 0 => .array .int
  | 1 => .array .int
  | 2 => .array .boolean
  | 3 => .array .int
  | 4 => .array .int
  | 5 => .array .int
  | 6 => .boolean
  | 7 => .int
  | 8 => .int
  | 9 => .int
  | 10 => .int
  | _ => .int
abbrev wsX40 : List Cond := u_ws RX4 TX4 12
theorem nmX4 : ∀ a, a < 12 → ∀ b, b < 12 → a ≠ b → (TX4 a).2.1 ≠ (TX4 b).2.1 := by decide +kernel
theorem tyX4_ok : ∀ k, k < 12 → parseFieldDescriptor (TX4 k).2.2.1 = some (tyX4 k) := by decide +kernel
def RX5 : String := "AvalancheInn$Parser"
def TX5 : u_T := fun k => match k with
  | 0 => ("AvalancheInn$Parser", "lexer", "LAvalancheInn$Lexer;", true)
  | 1 => ("AvalancheInn$Parser", "roomNames", "[J", true)
  | 2 => ("AvalancheInn$Parser", "guestNames", "[J", true)
  | 3 => ("AvalancheInn$Parser", "pass", "LAvalancheInn$Pass;", false)
  | 4 => ("AvalancheInn$Parser", "linesTold", "I", false)
  | 5 => ("AvalancheInn$Parser", "slopesTold", "I", false)
  | 6 => ("AvalancheInn$Parser", "liesTold", "I", false)
  | 7 => ("AvalancheInn$Parser", "wallsTold", "I", false)
  | 8 => ("AvalancheInn$Parser", "value", "I", false)
  | 9 => ("AvalancheInn$Parser", "faultKind", "I", false)
  | _ => ("AvalancheInn$Parser", "faultPlace", "I", false)
def tyX5 : Nat → FieldType := fun k => match k with
  | 0 => .object "AvalancheInn$Lexer"
  | 1 => .array .long
  | 2 => .array .long
  | 3 => .object "AvalancheInn$Pass"
  | 4 => .int
  | 5 => .int
  | 6 => .int
  | 7 => .int
  | 8 => .int
  | 9 => .int
  | _ => .int
abbrev wsX50 : List Cond := u_ws RX5 TX5 11
theorem nmX5 : ∀ a, a < 11 → ∀ b, b < 11 → a ≠ b → (TX5 a).2.1 ≠ (TX5 b).2.1 := by decide +kernel
theorem tyX5_ok : ∀ k, k < 11 → parseFieldDescriptor (TX5 k).2.2.1 = some (tyX5 k) := by decide +kernel
def RX6 : String := "AvalancheInn$Pass"
def TX6 : u_T := fun k => match k with
  | 0 => ("AvalancheInn$Pass", "lanes", "I", false)
  | 1 => ("AvalancheInn$Pass", "rows", "I", false)
  | 2 => ("AvalancheInn$Pass", "steep", "[I", true)
  | 3 => ("AvalancheInn$Pass", "rooms", "I", false)
  | 4 => ("AvalancheInn$Pass", "bears", "[I", true)
  | 5 => ("AvalancheInn$Pass", "rates", "[I", true)
  | 6 => ("AvalancheInn$Pass", "guests", "I", false)
  | 7 => ("AvalancheInn$Pass", "guestRooms", "[I", true)
  | 8 => ("AvalancheInn$Pass", "guestNoises", "[I", true)
  | 9 => ("AvalancheInn$Pass", "guestFroms", "[I", true)
  | 10 => ("AvalancheInn$Pass", "guestTos", "[I", true)
  | 11 => ("AvalancheInn$Pass", "tips", "LAvalancheInn$Formula;", true)
  | 12 => ("AvalancheInn$Pass", "falls", "I", false)
  | 13 => ("AvalancheInn$Pass", "wind", "I", false)
  | _ => ("AvalancheInn$Pass", "first", "LAvalancheInn$State;", true)
def tyX6 : Nat → FieldType := fun k => match k with
  | 0 => .int
  | 1 => .int
  | 2 => .array .int
  | 3 => .int
  | 4 => .array .int
  | 5 => .array .int
  | 6 => .int
  | 7 => .array .int
  | 8 => .array .int
  | 9 => .array .int
  | 10 => .array .int
  | 11 => .object "AvalancheInn$Formula"
  | 12 => .int
  | 13 => .int
  | _ => .object "AvalancheInn$State"
abbrev wsX60 : List Cond := u_ws RX6 TX6 15
theorem nmX6 : ∀ a, a < 15 → ∀ b, b < 15 → a ≠ b → (TX6 a).2.1 ≠ (TX6 b).2.1 := by decide +kernel
theorem tyX6_ok : ∀ k, k < 15 → parseFieldDescriptor (TX6 k).2.2.1 = some (tyX6 k) := by decide +kernel
def RX7 : String := "AvalancheInn$Planner"
def TX7 : u_T := fun k => match k with
  | 0 => ("AvalancheInn$Planner", "hill", "LAvalancheInn$Hill;", true)
  | 1 => ("AvalancheInn$Planner", "pass", "LAvalancheInn$Pass;", false)
  | 2 => ("AvalancheInn$Planner", "now", "LAvalancheInn$State;", false)
  | 3 => ("AvalancheInn$Planner", "bestLanes", "[I", true)
  | 4 => ("AvalancheInn$Planner", "trialLanes", "[I", true)
  | 5 => ("AvalancheInn$Planner", "gains", "[I", true)
  | 6 => ("AvalancheInn$Planner", "bestLane", "I", false)
  | 7 => ("AvalancheInn$Planner", "bestRow", "I", false)
  | 8 => ("AvalancheInn$Planner", "bestSide", "I", false)
  | 9 => ("AvalancheInn$Planner", "bestLeft", "I", false)
  | _ => ("AvalancheInn$Planner", "firstRest", "I", false)
def tyX7 : Nat → FieldType := fun k => match k with
  | 0 => .object "AvalancheInn$Hill"
  | 1 => .object "AvalancheInn$Pass"
  | 2 => .object "AvalancheInn$State"
  | 3 => .array .int
  | 4 => .array .int
  | 5 => .array .int
  | 6 => .int
  | 7 => .int
  | 8 => .int
  | 9 => .int
  | _ => .int
abbrev wsX70 : List Cond := u_ws RX7 TX7 11
theorem nmX7 : ∀ a, a < 11 → ∀ b, b < 11 → a ≠ b → (TX7 a).2.1 ≠ (TX7 b).2.1 := by decide +kernel
theorem tyX7_ok : ∀ k, k < 11 → parseFieldDescriptor (TX7 k).2.2.1 = some (tyX7 k) := by decide +kernel
def RX8 : String := "AvalancheInn$State"
def TX8 : u_T := fun k => match k with
  | 0 => ("AvalancheInn$State", "snow", "[I", true)
  | 1 => ("AvalancheInn$State", "walls", "[I", true)
  | 2 => ("AvalancheInn$State", "lanes", "[I", true)
  | 3 => ("AvalancheInn$State", "gone", "I", false)
  | 4 => ("AvalancheInn$State", "hushed", "I", false)
  | 5 => ("AvalancheInn$State", "purse", "I", false)
  | 6 => ("AvalancheInn$State", "hour", "I", false)
  | _ => ("AvalancheInn$State", "seed", "I", false)
def tyX8 : Nat → FieldType := fun k => match k with
  | 0 => .array .int
  | 1 => .array .int
  | 2 => .array .int
  | 3 => .int
  | 4 => .int
  | 5 => .int
  | 6 => .int
  | _ => .int
abbrev wsX80 : List Cond := u_ws RX8 TX8 8
theorem nmX8 : ∀ a, a < 8 → ∀ b, b < 8 → a ≠ b → (TX8 a).2.1 ≠ (TX8 b).2.1 := by decide +kernel
theorem tyX8_ok : ∀ k, k < 8 → parseFieldDescriptor (TX8 k).2.2.1 = some (tyX8 k) := by decide +kernel
def RX9 : String := "AvalancheInn"
def TX9 : u_T := fun k => match k with
  | 0 => ("AvalancheInn", "tape", "[B", true)
  | 1 => ("AvalancheInn", "tapeLength", "I", false)
  | 2 => ("AvalancheInn", "parser", "LAvalancheInn$Parser;", true)
  | 3 => ("AvalancheInn", "told", "LAvalancheInn$Pass;", false)
  | 4 => ("AvalancheInn", "spare", "LAvalancheInn$Pass;", false)
  | 5 => ("AvalancheInn", "journal", "LAvalancheInn$Journal;", true)
  | 6 => ("AvalancheInn", "boxes", "[LAvalancheInn$State;", true)
  | 7 => ("AvalancheInn", "fullBoxes", "I", false)
  | 8 => ("AvalancheInn", "hill", "LAvalancheInn$Hill;", true)
  | 9 => ("AvalancheInn", "planner", "LAvalancheInn$Planner;", true)
  | 10 => ("AvalancheInn", "memory", "LAvalancheInn$Memory;", true)
  | 11 => ("AvalancheInn", "lying", "[I", true)
  | _ => ("AvalancheInn", "lyingCount", "I", false)
def tyX9 : Nat → FieldType := fun k => match k with
  | 0 => .array .byte
  | 1 => .int
  | 2 => .object "AvalancheInn$Parser"
  | 3 => .object "AvalancheInn$Pass"
  | 4 => .object "AvalancheInn$Pass"
  | 5 => .object "AvalancheInn$Journal"
  | 6 => .array (.object "AvalancheInn$State")
  | 7 => .int
  | 8 => .object "AvalancheInn$Hill"
  | 9 => .object "AvalancheInn$Planner"
  | 10 => .object "AvalancheInn$Memory"
  | 11 => .array .int
  | _ => .int
abbrev wsX90 : List Cond := u_ws RX9 TX9 13
theorem nmX9 : ∀ a, a < 13 → ∀ b, b < 13 → a ≠ b → (TX9 a).2.1 ≠ (TX9 b).2.1 := by decide +kernel
theorem tyX9_ok : ∀ k, k < 13 → parseFieldDescriptor (TX9 k).2.2.1 = some (tyX9 k) := by decide +kernel
def RX10 : String := "AvalancheInnModel"
def TX10 : u_T := fun k => match k with
  | 0 => ("AvalancheInnModel", "tape", "[B", true)
  | 1 => ("AvalancheInnModel", "text", "[B", true)
  | 2 => ("AvalancheInnModel", "taped", "I", false)
  | 3 => ("AvalancheInnModel", "size", "I", false)
  | 4 => ("AvalancheInnModel", "faultKind", "I", false)
  | 5 => ("AvalancheInnModel", "faultPlace", "I", false)
  | 6 => ("AvalancheInnModel", "at", "I", false)
  | 7 => ("AvalancheInnModel", "end", "I", false)
  | 8 => ("AvalancheInnModel", "token", "I", false)
  | 9 => ("AvalancheInnModel", "number", "I", false)
  | 10 => ("AvalancheInnModel", "name", "J", false)
  | 11 => ("AvalancheInnModel", "lanes", "[I", true)
  | 12 => ("AvalancheInnModel", "rows", "[I", true)
  | 13 => ("AvalancheInnModel", "rooms", "[I", true)
  | 14 => ("AvalancheInnModel", "guests", "[I", true)
  | 15 => ("AvalancheInnModel", "units", "[I", true)
  | 16 => ("AvalancheInnModel", "falls", "[I", true)
  | 17 => ("AvalancheInnModel", "wind", "[I", true)
  | 18 => ("AvalancheInnModel", "draw", "[I", true)
  | 19 => ("AvalancheInnModel", "told", "[I", true)
  | 20 => ("AvalancheInnModel", "slopesTold", "[I", true)
  | 21 => ("AvalancheInnModel", "liesTold", "[I", true)
  | 22 => ("AvalancheInnModel", "wallsTold", "[I", true)
  | 23 => ("AvalancheInnModel", "steep", "[I", true)
  | 24 => ("AvalancheInnModel", "snowTold", "[I", true)
  | 25 => ("AvalancheInnModel", "wallTold", "[I", true)
  | 26 => ("AvalancheInnModel", "laneTold", "[I", true)
  | 27 => ("AvalancheInnModel", "bears", "[I", true)
  | 28 => ("AvalancheInnModel", "rate", "[I", true)
  | 29 => ("AvalancheInnModel", "roomOf", "[I", true)
  | 30 => ("AvalancheInnModel", "noiseOf", "[I", true)
  | 31 => ("AvalancheInnModel", "from", "[I", true)
  | 32 => ("AvalancheInnModel", "to", "[I", true)
  | 33 => ("AvalancheInnModel", "ruleFrom", "[I", true)
  | 34 => ("AvalancheInnModel", "ruleTo", "[I", true)
  | 35 => ("AvalancheInnModel", "rName", "[J", true)
  | 36 => ("AvalancheInnModel", "gName", "[J", true)
  | 37 => ("AvalancheInnModel", "code", "[I", true)
  | 38 => ("AvalancheInnModel", "codeNumber", "[I", true)
  | 39 => ("AvalancheInnModel", "eWhat", "[I", true)
  | 40 => ("AvalancheInnModel", "eSign", "[I", true)
  | 41 => ("AvalancheInnModel", "pile", "[I", true)
  | 42 => ("AvalancheInnModel", "bank", "I", false)
  | 43 => ("AvalancheInnModel", "rb", "I", false)
  | 44 => ("AvalancheInnModel", "codes", "I", false)
  | 45 => ("AvalancheInnModel", "within", "I", false)
  | 46 => ("AvalancheInnModel", "piled", "I", false)
  | 47 => ("AvalancheInnModel", "unitsInRule", "I", false)
  | 48 => ("AvalancheInnModel", "isLate", "Z", false)
  | 49 => ("AvalancheInnModel", "askLane", "I", false)
  | 50 => ("AvalancheInnModel", "askRow", "I", false)
  | 51 => ("AvalancheInnModel", "askNoise", "I", false)
  | 52 => ("AvalancheInnModel", "all", "[I", true)
  | 53 => ("AvalancheInnModel", "kept", "[I", true)
  | 54 => ("AvalancheInnModel", "loads", "[I", true)
  | 55 => ("AvalancheInnModel", "thoughtFalls", "I", false)
  | 56 => ("AvalancheInnModel", "tipped", "I", false)
  | 57 => ("AvalancheInnModel", "trackLane", "I", false)
  | 58 => ("AvalancheInnModel", "trackLoad", "I", false)
  | 59 => ("AvalancheInnModel", "was", "[I", true)
  | 60 => ("AvalancheInnModel", "acts", "I", false)
  | 61 => ("AvalancheInnModel", "undone", "I", false)
  | 62 => ("AvalancheInnModel", "laidRow", "[I", true)
  | 63 => ("AvalancheInnModel", "laid", "I", false)
  | 64 => ("AvalancheInnModel", "gainOne", "[I", true)
  | 65 => ("AvalancheInnModel", "gainOther", "[I", true)
  | 66 => ("AvalancheInnModel", "goneIf", "[I", true)
  | 67 => ("AvalancheInnModel", "sHours", "[I", true)
  | 68 => ("AvalancheInnModel", "sRoom", "[I", true)
  | 69 => ("AvalancheInnModel", "sIs", "[I", true)
  | 70 => ("AvalancheInnModel", "sTold", "[I", true)
  | 71 => ("AvalancheInnModel", "sUntold", "[I", true)
  | 72 => ("AvalancheInnModel", "parted", "[I", true)
  | 73 => ("AvalancheInnModel", "seens", "I", false)
  | 74 => ("AvalancheInnModel", "time", "I", false)
  | 75 => ("AvalancheInnModel", "boxAll", "[I", true)
  | _ => ("AvalancheInnModel", "isBoxed", "[Z", true)
def tyX10 : Nat → FieldType := fun k => match k with
  | 0 => .array .byte
  | 1 => .array .byte
  | 2 => .int
  | 3 => .int
  | 4 => .int
  | 5 => .int
  | 6 => .int
  | 7 => .int
  | 8 => .int
  | 9 => .int
  | 10 => .long
  | 11 => .array .int
  | 12 => .array .int
  | 13 => .array .int
  | 14 => .array .int
  | 15 => .array .int
  | 16 => .array .int
  | 17 => .array .int
  | 18 => .array .int
  | 19 => .array .int
  | 20 => .array .int
  | 21 => .array .int
  | 22 => .array .int
  | 23 => .array .int
  | 24 => .array .int
  | 25 => .array .int
  | 26 => .array .int
  | 27 => .array .int
  | 28 => .array .int
  | 29 => .array .int
  | 30 => .array .int
  | 31 => .array .int
  | 32 => .array .int
  | 33 => .array .int
  | 34 => .array .int
  | 35 => .array .long
  | 36 => .array .long
  | 37 => .array .int
  | 38 => .array .int
  | 39 => .array .int
  | 40 => .array .int
  | 41 => .array .int
  | 42 => .int
  | 43 => .int
  | 44 => .int
  | 45 => .int
  | 46 => .int
  | 47 => .int
  | 48 => .boolean
  | 49 => .int
  | 50 => .int
  | 51 => .int
  | 52 => .array .int
  | 53 => .array .int
  | 54 => .array .int
  | 55 => .int
  | 56 => .int
  | 57 => .int
  | 58 => .int
  | 59 => .array .int
  | 60 => .int
  | 61 => .int
  | 62 => .array .int
  | 63 => .int
  | 64 => .array .int
  | 65 => .array .int
  | 66 => .array .int
  | 67 => .array .int
  | 68 => .array .int
  | 69 => .array .int
  | 70 => .array .int
  | 71 => .array .int
  | 72 => .array .int
  | 73 => .int
  | 74 => .int
  | 75 => .array .int
  | _ => .array .boolean
abbrev wsX100 : List Cond := u_ws RX10 TX10 77
theorem nmX10 : ∀ a, a < 77 → ∀ b, b < 77 → a ≠ b → (TX10 a).2.1 ≠ (TX10 b).2.1 := by decide +kernel
theorem tyX10_ok : ∀ k, k < 77 → parseFieldDescriptor (TX10 k).2.2.1 = some (tyX10 k) := by decide +kernel
def RJx145de : String := "java/io/Serializable"
def RJx9f9b0 : String := "java/lang/CharSequence"
def RJ11 : String := "java/lang/Character"
def RJxb160c : String := "java/lang/Comparable"
def RJ6 : String := "java/lang/Integer"
def RJ9 : String := "java/lang/Math"
def RJ0 : String := "java/lang/String"
def RJ1 : String := "java/lang/StringLatin1"
def RJ2 : String := "java/lang/StringUTF16"
def RJ10 : String := "java/lang/System"
def RJxfd54e : String := "java/lang/constant/Constable"
def RJx3cf43 : String := "java/lang/constant/ConstantDesc"
def RJ7 : String := "java/util/Arrays"
def RJ3 : String := "jdk/internal/util/Preconditions"
def RL : String := "AvalancheInnLaw"
abbrev vwCl : List vw_C := [(RX0, TX0, 7), (RX1, TX1, 10), (RX2, TX2, 4), (RX3, TX3, 8), (RX4, TX4, 12), (RX5, TX5, 11), (RX6, TX6, 15), (RX7, TX7, 11), (RX8, TX8, 8), (RX9, TX9, 13), (RX10, TX10, 77)]
