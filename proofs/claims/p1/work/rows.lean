section
-- ===== PART A: goes FIRST, ahead of the names: the tables' words, and 'selects' of the private methods out of them =====
/-- a private method of a class that the tables say can be made, by its rows of tables_1 -/
def lw_okq (q : MethodName × Nat) : Prop := (q.1.cls ≠ "java/lang/invoke/MethodHandle" ∧ q.1.cls ≠ "java/lang/invoke/VarHandle") ∧ Cond.instantiable q.1.cls q.2 ∈ tables_1 ∧ Cond.privateMethod q.1 ∈ tables_1 ∧ Cond.instanceMethod q.1 ∈ tables_1
theorem lw_p0 : lw_okq (⟨"AvalancheInn", "putBytes", "(I)V"⟩, 13) := ⟨⟨by decide +kernel, by decide +kernel⟩, List.mem_of_getElem? (i := 22) (by decide +kernel), List.mem_of_getElem? (i := 590) (by decide +kernel), List.mem_of_getElem? (i := 591) (by decide +kernel)⟩
theorem lw_p1 : lw_okq (⟨"AvalancheInn$Parser", "begin", "(LAvalancheInn$Pass;)V"⟩, 11) := ⟨⟨by decide +kernel, by decide +kernel⟩, List.mem_of_getElem? (i := 371) (by decide +kernel), List.mem_of_getElem? (i := 606) (by decide +kernel), List.mem_of_getElem? (i := 607) (by decide +kernel)⟩
theorem lw_p2 : lw_okq (⟨"AvalancheInn$Lexer", "scanWord", "()V"⟩, 8) := ⟨⟨by decide +kernel, by decide +kernel⟩, List.mem_of_getElem? (i := 377) (by decide +kernel), List.mem_of_getElem? (i := 622) (by decide +kernel), List.mem_of_getElem? (i := 623) (by decide +kernel)⟩
theorem lw_p3 : lw_okq (⟨"AvalancheInn$Lexer", "scanNumber", "()V"⟩, 8) := ⟨⟨by decide +kernel, by decide +kernel⟩, List.mem_of_getElem? (i := 377) (by decide +kernel), List.mem_of_getElem? (i := 626) (by decide +kernel), List.mem_of_getElem? (i := 627) (by decide +kernel)⟩
theorem lw_p4 : lw_okq (⟨"AvalancheInn$Parser", "mayStand", "(I)Z"⟩, 11) := ⟨⟨by decide +kernel, by decide +kernel⟩, List.mem_of_getElem? (i := 371) (by decide +kernel), List.mem_of_getElem? (i := 688) (by decide +kernel), List.mem_of_getElem? (i := 689) (by decide +kernel)⟩
theorem lw_p5 : lw_okq (⟨"AvalancheInn$Parser", "readRest", "(I)Z"⟩, 11) := ⟨⟨by decide +kernel, by decide +kernel⟩, List.mem_of_getElem? (i := 371) (by decide +kernel), List.mem_of_getElem? (i := 693) (by decide +kernel), List.mem_of_getElem? (i := 694) (by decide +kernel)⟩
theorem lw_p6 : lw_okq (⟨"AvalancheInn$Parser", "readSlope", "()Z"⟩, 11) := ⟨⟨by decide +kernel, by decide +kernel⟩, List.mem_of_getElem? (i := 371) (by decide +kernel), List.mem_of_getElem? (i := 697) (by decide +kernel), List.mem_of_getElem? (i := 698) (by decide +kernel)⟩
theorem lw_p7 : lw_okq (⟨"AvalancheInn$Parser", "takeNumber", "(II)Z"⟩, 11) := ⟨⟨by decide +kernel, by decide +kernel⟩, List.mem_of_getElem? (i := 371) (by decide +kernel), List.mem_of_getElem? (i := 701) (by decide +kernel), List.mem_of_getElem? (i := 702) (by decide +kernel)⟩
theorem lw_p8 : lw_okq (⟨"AvalancheInn$Parser", "refuseToken", "()Z"⟩, 11) := ⟨⟨by decide +kernel, by decide +kernel⟩, List.mem_of_getElem? (i := 371) (by decide +kernel), List.mem_of_getElem? (i := 705) (by decide +kernel), List.mem_of_getElem? (i := 706) (by decide +kernel)⟩
theorem lw_p9 : lw_okq (⟨"AvalancheInn$Parser", "fail", "(II)Z"⟩, 11) := ⟨⟨by decide +kernel, by decide +kernel⟩, List.mem_of_getElem? (i := 371) (by decide +kernel), List.mem_of_getElem? (i := 709) (by decide +kernel), List.mem_of_getElem? (i := 710) (by decide +kernel)⟩
theorem lw_p10 : lw_okq (⟨"AvalancheInn$Parser", "takeWord", "(I)Z"⟩, 11) := ⟨⟨by decide +kernel, by decide +kernel⟩, List.mem_of_getElem? (i := 371) (by decide +kernel), List.mem_of_getElem? (i := 713) (by decide +kernel), List.mem_of_getElem? (i := 714) (by decide +kernel)⟩
theorem lw_p11 : lw_okq (⟨"AvalancheInn$Parser", "isWord", "(I)Z"⟩, 11) := ⟨⟨by decide +kernel, by decide +kernel⟩, List.mem_of_getElem? (i := 371) (by decide +kernel), List.mem_of_getElem? (i := 717) (by decide +kernel), List.mem_of_getElem? (i := 718) (by decide +kernel)⟩
theorem lw_p12 : lw_okq (⟨"AvalancheInn$Parser", "readLies", "()Z"⟩, 11) := ⟨⟨by decide +kernel, by decide +kernel⟩, List.mem_of_getElem? (i := 371) (by decide +kernel), List.mem_of_getElem? (i := 721) (by decide +kernel), List.mem_of_getElem? (i := 722) (by decide +kernel)⟩
theorem lw_p13 : lw_okq (⟨"AvalancheInn$Parser", "takeCell", "(I)Z"⟩, 11) := ⟨⟨by decide +kernel, by decide +kernel⟩, List.mem_of_getElem? (i := 371) (by decide +kernel), List.mem_of_getElem? (i := 725) (by decide +kernel), List.mem_of_getElem? (i := 726) (by decide +kernel)⟩
theorem lw_p14 : lw_okq (⟨"AvalancheInn$Parser", "readWall", "()Z"⟩, 11) := ⟨⟨by decide +kernel, by decide +kernel⟩, List.mem_of_getElem? (i := 371) (by decide +kernel), List.mem_of_getElem? (i := 732) (by decide +kernel), List.mem_of_getElem? (i := 733) (by decide +kernel)⟩
theorem lw_p15 : lw_okq (⟨"AvalancheInn$Parser", "readRoom", "()Z"⟩, 11) := ⟨⟨by decide +kernel, by decide +kernel⟩, List.mem_of_getElem? (i := 371) (by decide +kernel), List.mem_of_getElem? (i := 736) (by decide +kernel), List.mem_of_getElem? (i := 737) (by decide +kernel)⟩
def lw_privs_1 : List (MethodName × Nat) := [(⟨"AvalancheInn", "putBytes", "(I)V"⟩, 13), (⟨"AvalancheInn$Parser", "begin", "(LAvalancheInn$Pass;)V"⟩, 11), (⟨"AvalancheInn$Lexer", "scanWord", "()V"⟩, 8), (⟨"AvalancheInn$Lexer", "scanNumber", "()V"⟩, 8), (⟨"AvalancheInn$Parser", "mayStand", "(I)Z"⟩, 11), (⟨"AvalancheInn$Parser", "readRest", "(I)Z"⟩, 11), (⟨"AvalancheInn$Parser", "readSlope", "()Z"⟩, 11), (⟨"AvalancheInn$Parser", "takeNumber", "(II)Z"⟩, 11), (⟨"AvalancheInn$Parser", "refuseToken", "()Z"⟩, 11), (⟨"AvalancheInn$Parser", "fail", "(II)Z"⟩, 11), (⟨"AvalancheInn$Parser", "takeWord", "(I)Z"⟩, 11), (⟨"AvalancheInn$Parser", "isWord", "(I)Z"⟩, 11), (⟨"AvalancheInn$Parser", "readLies", "()Z"⟩, 11), (⟨"AvalancheInn$Parser", "takeCell", "(I)Z"⟩, 11), (⟨"AvalancheInn$Parser", "readWall", "()Z"⟩, 11), (⟨"AvalancheInn$Parser", "readRoom", "()Z"⟩, 11)]
theorem lw_r1 : ∀ q ∈ lw_privs_1, lw_okq q := List.forall_mem_cons.mpr ⟨lw_p0, List.forall_mem_cons.mpr ⟨lw_p1, List.forall_mem_cons.mpr ⟨lw_p2, List.forall_mem_cons.mpr ⟨lw_p3, List.forall_mem_cons.mpr ⟨lw_p4, List.forall_mem_cons.mpr ⟨lw_p5, List.forall_mem_cons.mpr ⟨lw_p6, List.forall_mem_cons.mpr ⟨lw_p7, List.forall_mem_cons.mpr ⟨lw_p8, List.forall_mem_cons.mpr ⟨lw_p9, List.forall_mem_cons.mpr ⟨lw_p10, List.forall_mem_cons.mpr ⟨lw_p11, List.forall_mem_cons.mpr ⟨lw_p12, List.forall_mem_cons.mpr ⟨lw_p13, List.forall_mem_cons.mpr ⟨lw_p14, List.forall_mem_cons.mpr ⟨lw_p15, fun _ h => absurd h List.not_mem_nil⟩⟩⟩⟩⟩⟩⟩⟩⟩⟩⟩⟩⟩⟩⟩⟩
theorem lw_p16 : lw_okq (⟨"AvalancheInn$Parser", "takeNewName", "([JI)Z"⟩, 11) := ⟨⟨by decide +kernel, by decide +kernel⟩, List.mem_of_getElem? (i := 371) (by decide +kernel), List.mem_of_getElem? (i := 740) (by decide +kernel), List.mem_of_getElem? (i := 741) (by decide +kernel)⟩
theorem lw_p17 : lw_okq (⟨"AvalancheInn$Parser", "isName", "()Z"⟩, 11) := ⟨⟨by decide +kernel, by decide +kernel⟩, List.mem_of_getElem? (i := 371) (by decide +kernel), List.mem_of_getElem? (i := 744) (by decide +kernel), List.mem_of_getElem? (i := 745) (by decide +kernel)⟩
theorem lw_p18 : lw_okq (⟨"AvalancheInn$Parser", "numberOfName", "([JI)I"⟩, 11) := ⟨⟨by decide +kernel, by decide +kernel⟩, List.mem_of_getElem? (i := 371) (by decide +kernel), List.mem_of_getElem? (i := 748) (by decide +kernel), List.mem_of_getElem? (i := 749) (by decide +kernel)⟩
theorem lw_p19 : lw_okq (⟨"AvalancheInn$Parser", "readGuest", "()Z"⟩, 11) := ⟨⟨by decide +kernel, by decide +kernel⟩, List.mem_of_getElem? (i := 371) (by decide +kernel), List.mem_of_getElem? (i := 752) (by decide +kernel), List.mem_of_getElem? (i := 753) (by decide +kernel)⟩
theorem lw_p20 : lw_okq (⟨"AvalancheInn$Parser", "takeRoomOf", "(I)Z"⟩, 11) := ⟨⟨by decide +kernel, by decide +kernel⟩, List.mem_of_getElem? (i := 371) (by decide +kernel), List.mem_of_getElem? (i := 756) (by decide +kernel), List.mem_of_getElem? (i := 757) (by decide +kernel)⟩
theorem lw_p21 : lw_okq (⟨"AvalancheInn$Parser", "readPart", "(II)Z"⟩, 11) := ⟨⟨by decide +kernel, by decide +kernel⟩, List.mem_of_getElem? (i := 371) (by decide +kernel), List.mem_of_getElem? (i := 761) (by decide +kernel), List.mem_of_getElem? (i := 762) (by decide +kernel)⟩
theorem lw_p22 : lw_okq (⟨"AvalancheInn$Parser", "readUnit", "(I)Z"⟩, 11) := ⟨⟨by decide +kernel, by decide +kernel⟩, List.mem_of_getElem? (i := 371) (by decide +kernel), List.mem_of_getElem? (i := 765) (by decide +kernel), List.mem_of_getElem? (i := 766) (by decide +kernel)⟩
theorem lw_p23 : lw_okq (⟨"AvalancheInn$Parser", "takeSign", "(C)Z"⟩, 11) := ⟨⟨by decide +kernel, by decide +kernel⟩, List.mem_of_getElem? (i := 371) (by decide +kernel), List.mem_of_getElem? (i := 773) (by decide +kernel), List.mem_of_getElem? (i := 774) (by decide +kernel)⟩
theorem lw_p24 : lw_okq (⟨"AvalancheInn$Parser", "joinOf", "(I)I"⟩, 11) := ⟨⟨by decide +kernel, by decide +kernel⟩, List.mem_of_getElem? (i := 371) (by decide +kernel), List.mem_of_getElem? (i := 777) (by decide +kernel), List.mem_of_getElem? (i := 778) (by decide +kernel)⟩
theorem lw_p25 : lw_okq (⟨"AvalancheInn$Parser", "readSetting", "(I)Z"⟩, 11) := ⟨⟨by decide +kernel, by decide +kernel⟩, List.mem_of_getElem? (i := 371) (by decide +kernel), List.mem_of_getElem? (i := 784) (by decide +kernel), List.mem_of_getElem? (i := 785) (by decide +kernel)⟩
theorem lw_p26 : lw_okq (⟨"AvalancheInn", "tipsNow", "(LAvalancheInn$State;II)Z"⟩, 13) := ⟨⟨by decide +kernel, by decide +kernel⟩, List.mem_of_getElem? (i := 22) (by decide +kernel), List.mem_of_getElem? (i := 824) (by decide +kernel), List.mem_of_getElem? (i := 825) (by decide +kernel)⟩
theorem lw_p27 : lw_okq (⟨"AvalancheInn$Hill", "addSnow", "(II)V"⟩, 10) := ⟨⟨by decide +kernel, by decide +kernel⟩, List.mem_of_getElem? (i := 323) (by decide +kernel), List.mem_of_getElem? (i := 901) (by decide +kernel), List.mem_of_getElem? (i := 902) (by decide +kernel)⟩
theorem lw_p28 : lw_okq (⟨"AvalancheInn$Hill", "slide", "(II)V"⟩, 10) := ⟨⟨by decide +kernel, by decide +kernel⟩, List.mem_of_getElem? (i := 323) (by decide +kernel), List.mem_of_getElem? (i := 907) (by decide +kernel), List.mem_of_getElem? (i := 908) (by decide +kernel)⟩
theorem lw_p29 : lw_okq (⟨"AvalancheInn$Hill", "follow", "(IIZ)V"⟩, 10) := ⟨⟨by decide +kernel, by decide +kernel⟩, List.mem_of_getElem? (i := 323) (by decide +kernel), List.mem_of_getElem? (i := 911) (by decide +kernel), List.mem_of_getElem? (i := 912) (by decide +kernel)⟩
theorem lw_p30 : lw_okq (⟨"AvalancheInn$Hill", "gather", "(IZ)V"⟩, 10) := ⟨⟨by decide +kernel, by decide +kernel⟩, List.mem_of_getElem? (i := 323) (by decide +kernel), List.mem_of_getElem? (i := 915) (by decide +kernel), List.mem_of_getElem? (i := 916) (by decide +kernel)⟩
theorem lw_p31 : lw_okq (⟨"AvalancheInn", "supposeHours", "(I)Z"⟩, 13) := ⟨⟨by decide +kernel, by decide +kernel⟩, List.mem_of_getElem? (i := 22) (by decide +kernel), List.mem_of_getElem? (i := 996) (by decide +kernel), List.mem_of_getElem? (i := 997) (by decide +kernel)⟩
def lw_privs_2 : List (MethodName × Nat) := [(⟨"AvalancheInn$Parser", "takeNewName", "([JI)Z"⟩, 11), (⟨"AvalancheInn$Parser", "isName", "()Z"⟩, 11), (⟨"AvalancheInn$Parser", "numberOfName", "([JI)I"⟩, 11), (⟨"AvalancheInn$Parser", "readGuest", "()Z"⟩, 11), (⟨"AvalancheInn$Parser", "takeRoomOf", "(I)Z"⟩, 11), (⟨"AvalancheInn$Parser", "readPart", "(II)Z"⟩, 11), (⟨"AvalancheInn$Parser", "readUnit", "(I)Z"⟩, 11), (⟨"AvalancheInn$Parser", "takeSign", "(C)Z"⟩, 11), (⟨"AvalancheInn$Parser", "joinOf", "(I)I"⟩, 11), (⟨"AvalancheInn$Parser", "readSetting", "(I)Z"⟩, 11), (⟨"AvalancheInn", "tipsNow", "(LAvalancheInn$State;II)Z"⟩, 13), (⟨"AvalancheInn$Hill", "addSnow", "(II)V"⟩, 10), (⟨"AvalancheInn$Hill", "slide", "(II)V"⟩, 10), (⟨"AvalancheInn$Hill", "follow", "(IIZ)V"⟩, 10), (⟨"AvalancheInn$Hill", "gather", "(IZ)V"⟩, 10), (⟨"AvalancheInn", "supposeHours", "(I)Z"⟩, 13)]
theorem lw_r2 : ∀ q ∈ lw_privs_2, lw_okq q := List.forall_mem_cons.mpr ⟨lw_p16, List.forall_mem_cons.mpr ⟨lw_p17, List.forall_mem_cons.mpr ⟨lw_p18, List.forall_mem_cons.mpr ⟨lw_p19, List.forall_mem_cons.mpr ⟨lw_p20, List.forall_mem_cons.mpr ⟨lw_p21, List.forall_mem_cons.mpr ⟨lw_p22, List.forall_mem_cons.mpr ⟨lw_p23, List.forall_mem_cons.mpr ⟨lw_p24, List.forall_mem_cons.mpr ⟨lw_p25, List.forall_mem_cons.mpr ⟨lw_p26, List.forall_mem_cons.mpr ⟨lw_p27, List.forall_mem_cons.mpr ⟨lw_p28, List.forall_mem_cons.mpr ⟨lw_p29, List.forall_mem_cons.mpr ⟨lw_p30, List.forall_mem_cons.mpr ⟨lw_p31, fun _ h => absurd h List.not_mem_nil⟩⟩⟩⟩⟩⟩⟩⟩⟩⟩⟩⟩⟩⟩⟩⟩
theorem lw_p32 : lw_okq (⟨"AvalancheInn", "hoursTillGone", "(I)I"⟩, 13) := ⟨⟨by decide +kernel, by decide +kernel⟩, List.mem_of_getElem? (i := 22) (by decide +kernel), List.mem_of_getElem? (i := 1013) (by decide +kernel), List.mem_of_getElem? (i := 1014) (by decide +kernel)⟩
theorem lw_p33 : lw_okq (⟨"AvalancheInn$Planner", "takeUp", "(LAvalancheInn$Pass;LAvalancheInn$State;)V"⟩, 11) := ⟨⟨by decide +kernel, by decide +kernel⟩, List.mem_of_getElem? (i := 499) (by decide +kernel), List.mem_of_getElem? (i := 1045) (by decide +kernel), List.mem_of_getElem? (i := 1046) (by decide +kernel)⟩
theorem lw_p34 : lw_okq (⟨"AvalancheInn$Planner", "noisyRooms", "()I"⟩, 11) := ⟨⟨by decide +kernel, by decide +kernel⟩, List.mem_of_getElem? (i := 499) (by decide +kernel), List.mem_of_getElem? (i := 1050) (by decide +kernel), List.mem_of_getElem? (i := 1051) (by decide +kernel)⟩
theorem lw_p35 : lw_okq (⟨"AvalancheInn$Planner", "layFirst", "(I)V"⟩, 11) := ⟨⟨by decide +kernel, by decide +kernel⟩, List.mem_of_getElem? (i := 499) (by decide +kernel), List.mem_of_getElem? (i := 1057) (by decide +kernel), List.mem_of_getElem? (i := 1058) (by decide +kernel)⟩
theorem lw_p36 : lw_okq (⟨"AvalancheInn$Planner", "tryPlaces", "(III)I"⟩, 11) := ⟨⟨by decide +kernel, by decide +kernel⟩, List.mem_of_getElem? (i := 499) (by decide +kernel), List.mem_of_getElem? (i := 1061) (by decide +kernel), List.mem_of_getElem? (i := 1062) (by decide +kernel)⟩
theorem lw_p37 : lw_okq (⟨"AvalancheInn$Planner", "placeStill", "(I)I"⟩, 11) := ⟨⟨by decide +kernel, by decide +kernel⟩, List.mem_of_getElem? (i := 499) (by decide +kernel), List.mem_of_getElem? (i := 1067) (by decide +kernel), List.mem_of_getElem? (i := 1068) (by decide +kernel)⟩
theorem lw_p38 : lw_okq (⟨"AvalancheInn$Planner", "comesFirst", "()Z"⟩, 11) := ⟨⟨by decide +kernel, by decide +kernel⟩, List.mem_of_getElem? (i := 499) (by decide +kernel), List.mem_of_getElem? (i := 1071) (by decide +kernel), List.mem_of_getElem? (i := 1072) (by decide +kernel)⟩
theorem lw_p39 : lw_okq (⟨"AvalancheInn$Planner", "allFirst", "(I)Z"⟩, 11) := ⟨⟨by decide +kernel, by decide +kernel⟩, List.mem_of_getElem? (i := 499) (by decide +kernel), List.mem_of_getElem? (i := 1075) (by decide +kernel), List.mem_of_getElem? (i := 1076) (by decide +kernel)⟩
theorem lw_p40 : lw_okq (⟨"AvalancheInn$Planner", "nextLanes", "(I)Z"⟩, 11) := ⟨⟨by decide +kernel, by decide +kernel⟩, List.mem_of_getElem? (i := 499) (by decide +kernel), List.mem_of_getElem? (i := 1079) (by decide +kernel), List.mem_of_getElem? (i := 1080) (by decide +kernel)⟩
theorem lw_p41 : lw_okq (⟨"AvalancheInn", "putDown", "(I)V"⟩, 13) := ⟨⟨by decide +kernel, by decide +kernel⟩, List.mem_of_getElem? (i := 22) (by decide +kernel), List.mem_of_getElem? (i := 1083) (by decide +kernel), List.mem_of_getElem? (i := 1084) (by decide +kernel)⟩
theorem lw_p42 : lw_okq (⟨"AvalancheInn$Planner", "allStay", "(II)Z"⟩, 11) := ⟨⟨by decide +kernel, by decide +kernel⟩, List.mem_of_getElem? (i := 499) (by decide +kernel), List.mem_of_getElem? (i := 1096) (by decide +kernel), List.mem_of_getElem? (i := 1097) (by decide +kernel)⟩
theorem lw_p43 : lw_okq (⟨"AvalancheInn$Planner", "leftBehind", "(I)I"⟩, 11) := ⟨⟨by decide +kernel, by decide +kernel⟩, List.mem_of_getElem? (i := 499) (by decide +kernel), List.mem_of_getElem? (i := 1108) (by decide +kernel), List.mem_of_getElem? (i := 1109) (by decide +kernel)⟩
theorem lw_p44 : lw_okq (⟨"AvalancheInn$Planner", "tryWall", "(IIII)V"⟩, 11) := ⟨⟨by decide +kernel, by decide +kernel⟩, List.mem_of_getElem? (i := 499) (by decide +kernel), List.mem_of_getElem? (i := 1112) (by decide +kernel), List.mem_of_getElem? (i := 1113) (by decide +kernel)⟩
theorem lw_p45 : lw_okq (⟨"AvalancheInn$Planner", "keepIfBest", "(III)Z"⟩, 11) := ⟨⟨by decide +kernel, by decide +kernel⟩, List.mem_of_getElem? (i := 499) (by decide +kernel), List.mem_of_getElem? (i := 1117) (by decide +kernel), List.mem_of_getElem? (i := 1118) (by decide +kernel)⟩
theorem lw_p46 : lw_okq (⟨"AvalancheInn$Planner", "tryDuel", "(III)V"⟩, 11) := ⟨⟨by decide +kernel, by decide +kernel⟩, List.mem_of_getElem? (i := 499) (by decide +kernel), List.mem_of_getElem? (i := 1145) (by decide +kernel), List.mem_of_getElem? (i := 1146) (by decide +kernel)⟩
theorem lw_p47 : lw_okq (⟨"AvalancheInn$Planner", "gainOf", "(I)I"⟩, 11) := ⟨⟨by decide +kernel, by decide +kernel⟩, List.mem_of_getElem? (i := 499) (by decide +kernel), List.mem_of_getElem? (i := 1150) (by decide +kernel), List.mem_of_getElem? (i := 1151) (by decide +kernel)⟩
def lw_privs_3 : List (MethodName × Nat) := [(⟨"AvalancheInn", "hoursTillGone", "(I)I"⟩, 13), (⟨"AvalancheInn$Planner", "takeUp", "(LAvalancheInn$Pass;LAvalancheInn$State;)V"⟩, 11), (⟨"AvalancheInn$Planner", "noisyRooms", "()I"⟩, 11), (⟨"AvalancheInn$Planner", "layFirst", "(I)V"⟩, 11), (⟨"AvalancheInn$Planner", "tryPlaces", "(III)I"⟩, 11), (⟨"AvalancheInn$Planner", "placeStill", "(I)I"⟩, 11), (⟨"AvalancheInn$Planner", "comesFirst", "()Z"⟩, 11), (⟨"AvalancheInn$Planner", "allFirst", "(I)Z"⟩, 11), (⟨"AvalancheInn$Planner", "nextLanes", "(I)Z"⟩, 11), (⟨"AvalancheInn", "putDown", "(I)V"⟩, 13), (⟨"AvalancheInn$Planner", "allStay", "(II)Z"⟩, 11), (⟨"AvalancheInn$Planner", "leftBehind", "(I)I"⟩, 11), (⟨"AvalancheInn$Planner", "tryWall", "(IIII)V"⟩, 11), (⟨"AvalancheInn$Planner", "keepIfBest", "(III)Z"⟩, 11), (⟨"AvalancheInn$Planner", "tryDuel", "(III)V"⟩, 11), (⟨"AvalancheInn$Planner", "gainOf", "(I)I"⟩, 11)]
theorem lw_r3 : ∀ q ∈ lw_privs_3, lw_okq q := List.forall_mem_cons.mpr ⟨lw_p32, List.forall_mem_cons.mpr ⟨lw_p33, List.forall_mem_cons.mpr ⟨lw_p34, List.forall_mem_cons.mpr ⟨lw_p35, List.forall_mem_cons.mpr ⟨lw_p36, List.forall_mem_cons.mpr ⟨lw_p37, List.forall_mem_cons.mpr ⟨lw_p38, List.forall_mem_cons.mpr ⟨lw_p39, List.forall_mem_cons.mpr ⟨lw_p40, List.forall_mem_cons.mpr ⟨lw_p41, List.forall_mem_cons.mpr ⟨lw_p42, List.forall_mem_cons.mpr ⟨lw_p43, List.forall_mem_cons.mpr ⟨lw_p44, List.forall_mem_cons.mpr ⟨lw_p45, List.forall_mem_cons.mpr ⟨lw_p46, List.forall_mem_cons.mpr ⟨lw_p47, fun _ h => absurd h List.not_mem_nil⟩⟩⟩⟩⟩⟩⟩⟩⟩⟩⟩⟩⟩⟩⟩⟩
theorem lw_p48 : lw_okq (⟨"AvalancheInn$Memory", "workOut", "(LAvalancheInn$Hill;LAvalancheInn$Pass;)V"⟩, 12) := ⟨⟨by decide +kernel, by decide +kernel⟩, List.mem_of_getElem? (i := 274) (by decide +kernel), List.mem_of_getElem? (i := 1223) (by decide +kernel), List.mem_of_getElem? (i := 1224) (by decide +kernel)⟩
theorem lw_p49 : lw_okq (⟨"AvalancheInn$Memory", "allSo", "(II)Z"⟩, 12) := ⟨⟨by decide +kernel, by decide +kernel⟩, List.mem_of_getElem? (i := 274) (by decide +kernel), List.mem_of_getElem? (i := 1230) (by decide +kernel), List.mem_of_getElem? (i := 1231) (by decide +kernel)⟩
theorem lw_p50 : lw_okq (⟨"AvalancheInn$Memory", "mostAlike", "(I)I"⟩, 12) := ⟨⟨by decide +kernel, by decide +kernel⟩, List.mem_of_getElem? (i := 274) (by decide +kernel), List.mem_of_getElem? (i := 1250) (by decide +kernel), List.mem_of_getElem? (i := 1251) (by decide +kernel)⟩
theorem lw_p51 : lw_okq (⟨"AvalancheInnModel", "clearBank", "()V"⟩, 77) := ⟨⟨by decide +kernel, by decide +kernel⟩, List.mem_of_getElem? (i := 1268) (by decide +kernel), List.mem_of_getElem? (i := 1274) (by decide +kernel), List.mem_of_getElem? (i := 1275) (by decide +kernel)⟩
theorem lw_p52 : lw_okq (⟨"AvalancheInnModel", "startAnew", "()V"⟩, 77) := ⟨⟨by decide +kernel, by decide +kernel⟩, List.mem_of_getElem? (i := 1268) (by decide +kernel), List.mem_of_getElem? (i := 1278) (by decide +kernel), List.mem_of_getElem? (i := 1279) (by decide +kernel)⟩
theorem lw_p53 : lw_okq (⟨"AvalancheInnModel", "layTold", "()V"⟩, 77) := ⟨⟨by decide +kernel, by decide +kernel⟩, List.mem_of_getElem? (i := 1268) (by decide +kernel), List.mem_of_getElem? (i := 1282) (by decide +kernel), List.mem_of_getElem? (i := 1283) (by decide +kernel)⟩
theorem lw_p54 : lw_okq (⟨"AvalancheInnModel", "lots", "()I"⟩, 77) := ⟨⟨by decide +kernel, by decide +kernel⟩, List.mem_of_getElem? (i := 1268) (by decide +kernel), List.mem_of_getElem? (i := 1286) (by decide +kernel), List.mem_of_getElem? (i := 1287) (by decide +kernel)⟩
theorem lw_p55 : lw_okq (⟨"AvalancheInnModel", "goOn", "()V"⟩, 77) := ⟨⟨by decide +kernel, by decide +kernel⟩, List.mem_of_getElem? (i := 1268) (by decide +kernel), List.mem_of_getElem? (i := 1526) (by decide +kernel), List.mem_of_getElem? (i := 1527) (by decide +kernel)⟩
theorem lw_p56 : lw_okq (⟨"AvalancheInnModel", "sign", "(I)I"⟩, 77) := ⟨⟨by decide +kernel, by decide +kernel⟩, List.mem_of_getElem? (i := 1268) (by decide +kernel), List.mem_of_getElem? (i := 1530) (by decide +kernel), List.mem_of_getElem? (i := 1531) (by decide +kernel)⟩
theorem lw_p57 : lw_okq (⟨"AvalancheInnModel", "isGood", "()Z"⟩, 77) := ⟨⟨by decide +kernel, by decide +kernel⟩, List.mem_of_getElem? (i := 1268) (by decide +kernel), List.mem_of_getElem? (i := 1573) (by decide +kernel), List.mem_of_getElem? (i := 1574) (by decide +kernel)⟩
theorem lw_p58 : lw_okq (⟨"AvalancheInnModel", "readLine", "()V"⟩, 77) := ⟨⟨by decide +kernel, by decide +kernel⟩, List.mem_of_getElem? (i := 1268) (by decide +kernel), List.mem_of_getElem? (i := 1577) (by decide +kernel), List.mem_of_getElem? (i := 1578) (by decide +kernel)⟩
theorem lw_p59 : lw_okq (⟨"AvalancheInnModel", "isFull", "()Z"⟩, 77) := ⟨⟨by decide +kernel, by decide +kernel⟩, List.mem_of_getElem? (i := 1268) (by decide +kernel), List.mem_of_getElem? (i := 1581) (by decide +kernel), List.mem_of_getElem? (i := 1582) (by decide +kernel)⟩
theorem lw_p60 : lw_okq (⟨"AvalancheInnModel", "isWord", "(J)Z"⟩, 77) := ⟨⟨by decide +kernel, by decide +kernel⟩, List.mem_of_getElem? (i := 1268) (by decide +kernel), List.mem_of_getElem? (i := 1585) (by decide +kernel), List.mem_of_getElem? (i := 1586) (by decide +kernel)⟩
theorem lw_p61 : lw_okq (⟨"AvalancheInnModel", "misplaced", "()V"⟩, 77) := ⟨⟨by decide +kernel, by decide +kernel⟩, List.mem_of_getElem? (i := 1268) (by decide +kernel), List.mem_of_getElem? (i := 1592) (by decide +kernel), List.mem_of_getElem? (i := 1593) (by decide +kernel)⟩
theorem lw_p62 : lw_okq (⟨"AvalancheInnModel", "fails", "(II)V"⟩, 77) := ⟨⟨by decide +kernel, by decide +kernel⟩, List.mem_of_getElem? (i := 1268) (by decide +kernel), List.mem_of_getElem? (i := 1596) (by decide +kernel), List.mem_of_getElem? (i := 1597) (by decide +kernel)⟩
theorem lw_p63 : lw_okq (⟨"AvalancheInnModel", "once", "(III)I"⟩, 77) := ⟨⟨by decide +kernel, by decide +kernel⟩, List.mem_of_getElem? (i := 1268) (by decide +kernel), List.mem_of_getElem? (i := 1600) (by decide +kernel), List.mem_of_getElem? (i := 1601) (by decide +kernel)⟩
def lw_privs_4 : List (MethodName × Nat) := [(⟨"AvalancheInn$Memory", "workOut", "(LAvalancheInn$Hill;LAvalancheInn$Pass;)V"⟩, 12), (⟨"AvalancheInn$Memory", "allSo", "(II)Z"⟩, 12), (⟨"AvalancheInn$Memory", "mostAlike", "(I)I"⟩, 12), (⟨"AvalancheInnModel", "clearBank", "()V"⟩, 77), (⟨"AvalancheInnModel", "startAnew", "()V"⟩, 77), (⟨"AvalancheInnModel", "layTold", "()V"⟩, 77), (⟨"AvalancheInnModel", "lots", "()I"⟩, 77), (⟨"AvalancheInnModel", "goOn", "()V"⟩, 77), (⟨"AvalancheInnModel", "sign", "(I)I"⟩, 77), (⟨"AvalancheInnModel", "isGood", "()Z"⟩, 77), (⟨"AvalancheInnModel", "readLine", "()V"⟩, 77), (⟨"AvalancheInnModel", "isFull", "()Z"⟩, 77), (⟨"AvalancheInnModel", "isWord", "(J)Z"⟩, 77), (⟨"AvalancheInnModel", "misplaced", "()V"⟩, 77), (⟨"AvalancheInnModel", "fails", "(II)V"⟩, 77), (⟨"AvalancheInnModel", "once", "(III)I"⟩, 77)]
theorem lw_r4 : ∀ q ∈ lw_privs_4, lw_okq q := List.forall_mem_cons.mpr ⟨lw_p48, List.forall_mem_cons.mpr ⟨lw_p49, List.forall_mem_cons.mpr ⟨lw_p50, List.forall_mem_cons.mpr ⟨lw_p51, List.forall_mem_cons.mpr ⟨lw_p52, List.forall_mem_cons.mpr ⟨lw_p53, List.forall_mem_cons.mpr ⟨lw_p54, List.forall_mem_cons.mpr ⟨lw_p55, List.forall_mem_cons.mpr ⟨lw_p56, List.forall_mem_cons.mpr ⟨lw_p57, List.forall_mem_cons.mpr ⟨lw_p58, List.forall_mem_cons.mpr ⟨lw_p59, List.forall_mem_cons.mpr ⟨lw_p60, List.forall_mem_cons.mpr ⟨lw_p61, List.forall_mem_cons.mpr ⟨lw_p62, List.forall_mem_cons.mpr ⟨lw_p63, fun _ h => absurd h List.not_mem_nil⟩⟩⟩⟩⟩⟩⟩⟩⟩⟩⟩⟩⟩⟩⟩⟩
theorem lw_p64 : lw_okq (⟨"AvalancheInnModel", "numeral", "(III)I"⟩, 77) := ⟨⟨by decide +kernel, by decide +kernel⟩, List.mem_of_getElem? (i := 1268) (by decide +kernel), List.mem_of_getElem? (i := 1604) (by decide +kernel), List.mem_of_getElem? (i := 1605) (by decide +kernel)⟩
theorem lw_p65 : lw_okq (⟨"AvalancheInnModel", "readSlope", "()V"⟩, 77) := ⟨⟨by decide +kernel, by decide +kernel⟩, List.mem_of_getElem? (i := 1268) (by decide +kernel), List.mem_of_getElem? (i := 1608) (by decide +kernel), List.mem_of_getElem? (i := 1609) (by decide +kernel)⟩
theorem lw_p66 : lw_okq (⟨"AvalancheInnModel", "after", "(JII)I"⟩, 77) := ⟨⟨by decide +kernel, by decide +kernel⟩, List.mem_of_getElem? (i := 1268) (by decide +kernel), List.mem_of_getElem? (i := 1612) (by decide +kernel), List.mem_of_getElem? (i := 1613) (by decide +kernel)⟩
theorem lw_p67 : lw_okq (⟨"AvalancheInnModel", "must", "(Z)V"⟩, 77) := ⟨⟨by decide +kernel, by decide +kernel⟩, List.mem_of_getElem? (i := 1268) (by decide +kernel), List.mem_of_getElem? (i := 1616) (by decide +kernel), List.mem_of_getElem? (i := 1617) (by decide +kernel)⟩
theorem lw_p68 : lw_okq (⟨"AvalancheInnModel", "readLies", "()V"⟩, 77) := ⟨⟨by decide +kernel, by decide +kernel⟩, List.mem_of_getElem? (i := 1268) (by decide +kernel), List.mem_of_getElem? (i := 1620) (by decide +kernel), List.mem_of_getElem? (i := 1621) (by decide +kernel)⟩
theorem lw_p69 : lw_okq (⟨"AvalancheInnModel", "cellIn", "(II)I"⟩, 77) := ⟨⟨by decide +kernel, by decide +kernel⟩, List.mem_of_getElem? (i := 1268) (by decide +kernel), List.mem_of_getElem? (i := 1624) (by decide +kernel), List.mem_of_getElem? (i := 1625) (by decide +kernel)⟩
theorem lw_p70 : lw_okq (⟨"AvalancheInnModel", "readWall", "()V"⟩, 77) := ⟨⟨by decide +kernel, by decide +kernel⟩, List.mem_of_getElem? (i := 1268) (by decide +kernel), List.mem_of_getElem? (i := 1628) (by decide +kernel), List.mem_of_getElem? (i := 1629) (by decide +kernel)⟩
theorem lw_p71 : lw_okq (⟨"AvalancheInnModel", "readRoom", "()V"⟩, 77) := ⟨⟨by decide +kernel, by decide +kernel⟩, List.mem_of_getElem? (i := 1268) (by decide +kernel), List.mem_of_getElem? (i := 1632) (by decide +kernel), List.mem_of_getElem? (i := 1633) (by decide +kernel)⟩
theorem lw_p72 : lw_okq (⟨"AvalancheInnModel", "here", "([JII)I"⟩, 77) := ⟨⟨by decide +kernel, by decide +kernel⟩, List.mem_of_getElem? (i := 1268) (by decide +kernel), List.mem_of_getElem? (i := 1636) (by decide +kernel), List.mem_of_getElem? (i := 1637) (by decide +kernel)⟩
theorem lw_p73 : lw_okq (⟨"AvalancheInnModel", "fresh", "(I)J"⟩, 77) := ⟨⟨by decide +kernel, by decide +kernel⟩, List.mem_of_getElem? (i := 1268) (by decide +kernel), List.mem_of_getElem? (i := 1640) (by decide +kernel), List.mem_of_getElem? (i := 1641) (by decide +kernel)⟩
theorem lw_p74 : lw_okq (⟨"AvalancheInnModel", "readGuest", "()V"⟩, 77) := ⟨⟨by decide +kernel, by decide +kernel⟩, List.mem_of_getElem? (i := 1268) (by decide +kernel), List.mem_of_getElem? (i := 1644) (by decide +kernel), List.mem_of_getElem? (i := 1645) (by decide +kernel)⟩
theorem lw_p75 : lw_okq (⟨"AvalancheInnModel", "readRule", "()V"⟩, 77) := ⟨⟨by decide +kernel, by decide +kernel⟩, List.mem_of_getElem? (i := 1268) (by decide +kernel), List.mem_of_getElem? (i := 1648) (by decide +kernel), List.mem_of_getElem? (i := 1649) (by decide +kernel)⟩
theorem lw_p76 : lw_okq (⟨"AvalancheInnModel", "e", "()V"⟩, 77) := ⟨⟨by decide +kernel, by decide +kernel⟩, List.mem_of_getElem? (i := 1268) (by decide +kernel), List.mem_of_getElem? (i := 1652) (by decide +kernel), List.mem_of_getElem? (i := 1653) (by decide +kernel)⟩
theorem lw_p77 : lw_okq (⟨"AvalancheInnModel", "pushE", "(II)V"⟩, 77) := ⟨⟨by decide +kernel, by decide +kernel⟩, List.mem_of_getElem? (i := 1268) (by decide +kernel), List.mem_of_getElem? (i := 1656) (by decide +kernel), List.mem_of_getElem? (i := 1657) (by decide +kernel)⟩
theorem lw_p78 : lw_okq (⟨"AvalancheInnModel", "unit", "()Z"⟩, 77) := ⟨⟨by decide +kernel, by decide +kernel⟩, List.mem_of_getElem? (i := 1268) (by decide +kernel), List.mem_of_getElem? (i := 1660) (by decide +kernel), List.mem_of_getElem? (i := 1661) (by decide +kernel)⟩
theorem lw_p79 : lw_okq (⟨"AvalancheInnModel", "isSignHere", "(I)Z"⟩, 77) := ⟨⟨by decide +kernel, by decide +kernel⟩, List.mem_of_getElem? (i := 1268) (by decide +kernel), List.mem_of_getElem? (i := 1664) (by decide +kernel), List.mem_of_getElem? (i := 1665) (by decide +kernel)⟩
def lw_privs_5 : List (MethodName × Nat) := [(⟨"AvalancheInnModel", "numeral", "(III)I"⟩, 77), (⟨"AvalancheInnModel", "readSlope", "()V"⟩, 77), (⟨"AvalancheInnModel", "after", "(JII)I"⟩, 77), (⟨"AvalancheInnModel", "must", "(Z)V"⟩, 77), (⟨"AvalancheInnModel", "readLies", "()V"⟩, 77), (⟨"AvalancheInnModel", "cellIn", "(II)I"⟩, 77), (⟨"AvalancheInnModel", "readWall", "()V"⟩, 77), (⟨"AvalancheInnModel", "readRoom", "()V"⟩, 77), (⟨"AvalancheInnModel", "here", "([JII)I"⟩, 77), (⟨"AvalancheInnModel", "fresh", "(I)J"⟩, 77), (⟨"AvalancheInnModel", "readGuest", "()V"⟩, 77), (⟨"AvalancheInnModel", "readRule", "()V"⟩, 77), (⟨"AvalancheInnModel", "e", "()V"⟩, 77), (⟨"AvalancheInnModel", "pushE", "(II)V"⟩, 77), (⟨"AvalancheInnModel", "unit", "()Z"⟩, 77), (⟨"AvalancheInnModel", "isSignHere", "(I)Z"⟩, 77)]
theorem lw_r5 : ∀ q ∈ lw_privs_5, lw_okq q := List.forall_mem_cons.mpr ⟨lw_p64, List.forall_mem_cons.mpr ⟨lw_p65, List.forall_mem_cons.mpr ⟨lw_p66, List.forall_mem_cons.mpr ⟨lw_p67, List.forall_mem_cons.mpr ⟨lw_p68, List.forall_mem_cons.mpr ⟨lw_p69, List.forall_mem_cons.mpr ⟨lw_p70, List.forall_mem_cons.mpr ⟨lw_p71, List.forall_mem_cons.mpr ⟨lw_p72, List.forall_mem_cons.mpr ⟨lw_p73, List.forall_mem_cons.mpr ⟨lw_p74, List.forall_mem_cons.mpr ⟨lw_p75, List.forall_mem_cons.mpr ⟨lw_p76, List.forall_mem_cons.mpr ⟨lw_p77, List.forall_mem_cons.mpr ⟨lw_p78, List.forall_mem_cons.mpr ⟨lw_p79, fun _ h => absurd h List.not_mem_nil⟩⟩⟩⟩⟩⟩⟩⟩⟩⟩⟩⟩⟩⟩⟩⟩
theorem lw_p80 : lw_okq (⟨"AvalancheInnModel", "wordHere", "()I"⟩, 77) := ⟨⟨by decide +kernel, by decide +kernel⟩, List.mem_of_getElem? (i := 1268) (by decide +kernel), List.mem_of_getElem? (i := 1668) (by decide +kernel), List.mem_of_getElem? (i := 1669) (by decide +kernel)⟩
theorem lw_p81 : lw_okq (⟨"AvalancheInnModel", "emit", "(II)V"⟩, 77) := ⟨⟨by decide +kernel, by decide +kernel⟩, List.mem_of_getElem? (i := 1268) (by decide +kernel), List.mem_of_getElem? (i := 1672) (by decide +kernel), List.mem_of_getElem? (i := 1673) (by decide +kernel)⟩
theorem lw_p82 : lw_okq (⟨"AvalancheInnModel", "behindUnit", "()Z"⟩, 77) := ⟨⟨by decide +kernel, by decide +kernel⟩, List.mem_of_getElem? (i := 1268) (by decide +kernel), List.mem_of_getElem? (i := 1676) (by decide +kernel), List.mem_of_getElem? (i := 1677) (by decide +kernel)⟩
theorem lw_p83 : lw_okq (⟨"AvalancheInnModel", "rankHere", "()I"⟩, 77) := ⟨⟨by decide +kernel, by decide +kernel⟩, List.mem_of_getElem? (i := 1268) (by decide +kernel), List.mem_of_getElem? (i := 1680) (by decide +kernel), List.mem_of_getElem? (i := 1681) (by decide +kernel)⟩
theorem lw_p84 : lw_okq (⟨"AvalancheInnModel", "isCompared", "()Z"⟩, 77) := ⟨⟨by decide +kernel, by decide +kernel⟩, List.mem_of_getElem? (i := 1268) (by decide +kernel), List.mem_of_getElem? (i := 1684) (by decide +kernel), List.mem_of_getElem? (i := 1685) (by decide +kernel)⟩
theorem lw_p85 : lw_okq (⟨"AvalancheInnModel", "isCell", "(II)Z"⟩, 77) := ⟨⟨by decide +kernel, by decide +kernel⟩, List.mem_of_getElem? (i := 1268) (by decide +kernel), List.mem_of_getElem? (i := 1696) (by decide +kernel), List.mem_of_getElem? (i := 1697) (by decide +kernel)⟩
theorem lw_p86 : lw_okq (⟨"AvalancheInnModel", "isLane", "(I)Z"⟩, 77) := ⟨⟨by decide +kernel, by decide +kernel⟩, List.mem_of_getElem? (i := 1268) (by decide +kernel), List.mem_of_getElem? (i := 1700) (by decide +kernel), List.mem_of_getElem? (i := 1701) (by decide +kernel)⟩
theorem lw_p87 : lw_okq (⟨"AvalancheInnModel", "wide", "()I"⟩, 77) := ⟨⟨by decide +kernel, by decide +kernel⟩, List.mem_of_getElem? (i := 1268) (by decide +kernel), List.mem_of_getElem? (i := 1704) (by decide +kernel), List.mem_of_getElem? (i := 1705) (by decide +kernel)⟩
theorem lw_p88 : lw_okq (⟨"AvalancheInnModel", "deep", "()I"⟩, 77) := ⟨⟨by decide +kernel, by decide +kernel⟩, List.mem_of_getElem? (i := 1268) (by decide +kernel), List.mem_of_getElem? (i := 1711) (by decide +kernel), List.mem_of_getElem? (i := 1712) (by decide +kernel)⟩
theorem lw_p89 : lw_okq (⟨"AvalancheInnModel", "snowIn", "(II)I"⟩, 77) := ⟨⟨by decide +kernel, by decide +kernel⟩, List.mem_of_getElem? (i := 1268) (by decide +kernel), List.mem_of_getElem? (i := 1715) (by decide +kernel), List.mem_of_getElem? (i := 1716) (by decide +kernel)⟩
theorem lw_p90 : lw_okq (⟨"AvalancheInnModel", "wallAt", "(II)I"⟩, 77) := ⟨⟨by decide +kernel, by decide +kernel⟩, List.mem_of_getElem? (i := 1268) (by decide +kernel), List.mem_of_getElem? (i := 1719) (by decide +kernel), List.mem_of_getElem? (i := 1720) (by decide +kernel)⟩
theorem lw_p91 : lw_okq (⟨"AvalancheInnModel", "doesTip", "(III)Z"⟩, 77) := ⟨⟨by decide +kernel, by decide +kernel⟩, List.mem_of_getElem? (i := 1268) (by decide +kernel), List.mem_of_getElem? (i := 1723) (by decide +kernel), List.mem_of_getElem? (i := 1724) (by decide +kernel)⟩
theorem lw_p92 : lw_okq (⟨"AvalancheInnModel", "noiseIn", "(I)I"⟩, 77) := ⟨⟨by decide +kernel, by decide +kernel⟩, List.mem_of_getElem? (i := 1268) (by decide +kernel), List.mem_of_getElem? (i := 1727) (by decide +kernel), List.mem_of_getElem? (i := 1728) (by decide +kernel)⟩
theorem lw_p93 : lw_okq (⟨"AvalancheInnModel", "guestRoom", "(I)I"⟩, 77) := ⟨⟨by decide +kernel, by decide +kernel⟩, List.mem_of_getElem? (i := 1268) (by decide +kernel), List.mem_of_getElem? (i := 1731) (by decide +kernel), List.mem_of_getElem? (i := 1732) (by decide +kernel)⟩
theorem lw_p94 : lw_okq (⟨"AvalancheInnModel", "isAwake", "(II)Z"⟩, 77) := ⟨⟨by decide +kernel, by decide +kernel⟩, List.mem_of_getElem? (i := 1268) (by decide +kernel), List.mem_of_getElem? (i := 1735) (by decide +kernel), List.mem_of_getElem? (i := 1736) (by decide +kernel)⟩
theorem lw_p95 : lw_okq (⟨"AvalancheInnModel", "doesStand", "(I)Z"⟩, 77) := ⟨⟨by decide +kernel, by decide +kernel⟩, List.mem_of_getElem? (i := 1268) (by decide +kernel), List.mem_of_getElem? (i := 1739) (by decide +kernel), List.mem_of_getElem? (i := 1740) (by decide +kernel)⟩
def lw_privs_6 : List (MethodName × Nat) := [(⟨"AvalancheInnModel", "wordHere", "()I"⟩, 77), (⟨"AvalancheInnModel", "emit", "(II)V"⟩, 77), (⟨"AvalancheInnModel", "behindUnit", "()Z"⟩, 77), (⟨"AvalancheInnModel", "rankHere", "()I"⟩, 77), (⟨"AvalancheInnModel", "isCompared", "()Z"⟩, 77), (⟨"AvalancheInnModel", "isCell", "(II)Z"⟩, 77), (⟨"AvalancheInnModel", "isLane", "(I)Z"⟩, 77), (⟨"AvalancheInnModel", "wide", "()I"⟩, 77), (⟨"AvalancheInnModel", "deep", "()I"⟩, 77), (⟨"AvalancheInnModel", "snowIn", "(II)I"⟩, 77), (⟨"AvalancheInnModel", "wallAt", "(II)I"⟩, 77), (⟨"AvalancheInnModel", "doesTip", "(III)Z"⟩, 77), (⟨"AvalancheInnModel", "noiseIn", "(I)I"⟩, 77), (⟨"AvalancheInnModel", "guestRoom", "(I)I"⟩, 77), (⟨"AvalancheInnModel", "isAwake", "(II)Z"⟩, 77), (⟨"AvalancheInnModel", "doesStand", "(I)Z"⟩, 77)]
theorem lw_r6 : ∀ q ∈ lw_privs_6, lw_okq q := List.forall_mem_cons.mpr ⟨lw_p80, List.forall_mem_cons.mpr ⟨lw_p81, List.forall_mem_cons.mpr ⟨lw_p82, List.forall_mem_cons.mpr ⟨lw_p83, List.forall_mem_cons.mpr ⟨lw_p84, List.forall_mem_cons.mpr ⟨lw_p85, List.forall_mem_cons.mpr ⟨lw_p86, List.forall_mem_cons.mpr ⟨lw_p87, List.forall_mem_cons.mpr ⟨lw_p88, List.forall_mem_cons.mpr ⟨lw_p89, List.forall_mem_cons.mpr ⟨lw_p90, List.forall_mem_cons.mpr ⟨lw_p91, List.forall_mem_cons.mpr ⟨lw_p92, List.forall_mem_cons.mpr ⟨lw_p93, List.forall_mem_cons.mpr ⟨lw_p94, List.forall_mem_cons.mpr ⟨lw_p95, fun _ h => absurd h List.not_mem_nil⟩⟩⟩⟩⟩⟩⟩⟩⟩⟩⟩⟩⟩⟩⟩⟩
theorem lw_p96 : lw_okq (⟨"AvalancheInnModel", "comes", "()I"⟩, 77) := ⟨⟨by decide +kernel, by decide +kernel⟩, List.mem_of_getElem? (i := 1268) (by decide +kernel), List.mem_of_getElem? (i := 1743) (by decide +kernel), List.mem_of_getElem? (i := 1744) (by decide +kernel)⟩
theorem lw_p97 : lw_okq (⟨"AvalancheInnModel", "asked", "(II)I"⟩, 77) := ⟨⟨by decide +kernel, by decide +kernel⟩, List.mem_of_getElem? (i := 1268) (by decide +kernel), List.mem_of_getElem? (i := 1747) (by decide +kernel), List.mem_of_getElem? (i := 1748) (by decide +kernel)⟩
theorem lw_p98 : lw_okq (⟨"AvalancheInnModel", "isRoom", "(I)Z"⟩, 77) := ⟨⟨by decide +kernel, by decide +kernel⟩, List.mem_of_getElem? (i := 1268) (by decide +kernel), List.mem_of_getElem? (i := 1758) (by decide +kernel), List.mem_of_getElem? (i := 1759) (by decide +kernel)⟩
theorem lw_p99 : lw_okq (⟨"AvalancheInnModel", "isGuest", "(I)Z"⟩, 77) := ⟨⟨by decide +kernel, by decide +kernel⟩, List.mem_of_getElem? (i := 1268) (by decide +kernel), List.mem_of_getElem? (i := 1766) (by decide +kernel), List.mem_of_getElem? (i := 1767) (by decide +kernel)⟩
theorem lw_p100 : lw_okq (⟨"AvalancheInnModel", "slide", "(IIZ)V"⟩, 77) := ⟨⟨by decide +kernel, by decide +kernel⟩, List.mem_of_getElem? (i := 1268) (by decide +kernel), List.mem_of_getElem? (i := 1786) (by decide +kernel), List.mem_of_getElem? (i := 1787) (by decide +kernel)⟩
theorem lw_p101 : lw_okq (⟨"AvalancheInnModel", "someTips", "(II)Z"⟩, 77) := ⟨⟨by decide +kernel, by decide +kernel⟩, List.mem_of_getElem? (i := 1268) (by decide +kernel), List.mem_of_getElem? (i := 1798) (by decide +kernel), List.mem_of_getElem? (i := 1799) (by decide +kernel)⟩
theorem lw_p102 : lw_okq (⟨"AvalancheInnModel", "keepAct", "()V"⟩, 77) := ⟨⟨by decide +kernel, by decide +kernel⟩, List.mem_of_getElem? (i := 1268) (by decide +kernel), List.mem_of_getElem? (i := 1806) (by decide +kernel), List.mem_of_getElem? (i := 1807) (by decide +kernel)⟩
theorem lw_p103 : lw_okq (⟨"AvalancheInnModel", "goHour", "(Z)V"⟩, 77) := ⟨⟨by decide +kernel, by decide +kernel⟩, List.mem_of_getElem? (i := 1268) (by decide +kernel), List.mem_of_getElem? (i := 1810) (by decide +kernel), List.mem_of_getElem? (i := 1811) (by decide +kernel)⟩
theorem lw_p104 : lw_okq (⟨"AvalancheInnModel", "addSnow", "(III)V"⟩, 77) := ⟨⟨by decide +kernel, by decide +kernel⟩, List.mem_of_getElem? (i := 1268) (by decide +kernel), List.mem_of_getElem? (i := 1814) (by decide +kernel), List.mem_of_getElem? (i := 1815) (by decide +kernel)⟩
theorem lw_p105 : lw_okq (⟨"AvalancheInnModel", "tip", "(III)V"⟩, 77) := ⟨⟨by decide +kernel, by decide +kernel⟩, List.mem_of_getElem? (i := 1268) (by decide +kernel), List.mem_of_getElem? (i := 1821) (by decide +kernel), List.mem_of_getElem? (i := 1822) (by decide +kernel)⟩
theorem lw_p106 : lw_okq (⟨"AvalancheInnModel", "ratesNow", "()I"⟩, 77) := ⟨⟨by decide +kernel, by decide +kernel⟩, List.mem_of_getElem? (i := 1268) (by decide +kernel), List.mem_of_getElem? (i := 1825) (by decide +kernel), List.mem_of_getElem? (i := 1826) (by decide +kernel)⟩
theorem lw_p107 : lw_okq (⟨"AvalancheInnModel", "goShout", "(II)I"⟩, 77) := ⟨⟨by decide +kernel, by decide +kernel⟩, List.mem_of_getElem? (i := 1268) (by decide +kernel), List.mem_of_getElem? (i := 1833) (by decide +kernel), List.mem_of_getElem? (i := 1834) (by decide +kernel)⟩
theorem lw_p108 : lw_okq (⟨"AvalancheInnModel", "turnHushed", "(I)I"⟩, 77) := ⟨⟨by decide +kernel, by decide +kernel⟩, List.mem_of_getElem? (i := 1268) (by decide +kernel), List.mem_of_getElem? (i := 1852) (by decide +kernel), List.mem_of_getElem? (i := 1853) (by decide +kernel)⟩
theorem lw_p109 : lw_okq (⟨"AvalancheInnModel", "swapAll", "()V"⟩, 77) := ⟨⟨by decide +kernel, by decide +kernel⟩, List.mem_of_getElem? (i := 1268) (by decide +kernel), List.mem_of_getElem? (i := 1872) (by decide +kernel), List.mem_of_getElem? (i := 1873) (by decide +kernel)⟩
theorem lw_p110 : lw_okq (⟨"AvalancheInnModel", "keepNow", "()V"⟩, 77) := ⟨⟨by decide +kernel, by decide +kernel⟩, List.mem_of_getElem? (i := 1268) (by decide +kernel), List.mem_of_getElem? (i := 1884) (by decide +kernel), List.mem_of_getElem? (i := 1885) (by decide +kernel)⟩
theorem lw_p111 : lw_okq (⟨"AvalancheInnModel", "bringBack", "()V"⟩, 77) := ⟨⟨by decide +kernel, by decide +kernel⟩, List.mem_of_getElem? (i := 1268) (by decide +kernel), List.mem_of_getElem? (i := 1888) (by decide +kernel), List.mem_of_getElem? (i := 1889) (by decide +kernel)⟩
def lw_privs_7 : List (MethodName × Nat) := [(⟨"AvalancheInnModel", "comes", "()I"⟩, 77), (⟨"AvalancheInnModel", "asked", "(II)I"⟩, 77), (⟨"AvalancheInnModel", "isRoom", "(I)Z"⟩, 77), (⟨"AvalancheInnModel", "isGuest", "(I)Z"⟩, 77), (⟨"AvalancheInnModel", "slide", "(IIZ)V"⟩, 77), (⟨"AvalancheInnModel", "someTips", "(II)Z"⟩, 77), (⟨"AvalancheInnModel", "keepAct", "()V"⟩, 77), (⟨"AvalancheInnModel", "goHour", "(Z)V"⟩, 77), (⟨"AvalancheInnModel", "addSnow", "(III)V"⟩, 77), (⟨"AvalancheInnModel", "tip", "(III)V"⟩, 77), (⟨"AvalancheInnModel", "ratesNow", "()I"⟩, 77), (⟨"AvalancheInnModel", "goShout", "(II)I"⟩, 77), (⟨"AvalancheInnModel", "turnHushed", "(I)I"⟩, 77), (⟨"AvalancheInnModel", "swapAll", "()V"⟩, 77), (⟨"AvalancheInnModel", "keepNow", "()V"⟩, 77), (⟨"AvalancheInnModel", "bringBack", "()V"⟩, 77)]
theorem lw_r7 : ∀ q ∈ lw_privs_7, lw_okq q := List.forall_mem_cons.mpr ⟨lw_p96, List.forall_mem_cons.mpr ⟨lw_p97, List.forall_mem_cons.mpr ⟨lw_p98, List.forall_mem_cons.mpr ⟨lw_p99, List.forall_mem_cons.mpr ⟨lw_p100, List.forall_mem_cons.mpr ⟨lw_p101, List.forall_mem_cons.mpr ⟨lw_p102, List.forall_mem_cons.mpr ⟨lw_p103, List.forall_mem_cons.mpr ⟨lw_p104, List.forall_mem_cons.mpr ⟨lw_p105, List.forall_mem_cons.mpr ⟨lw_p106, List.forall_mem_cons.mpr ⟨lw_p107, List.forall_mem_cons.mpr ⟨lw_p108, List.forall_mem_cons.mpr ⟨lw_p109, List.forall_mem_cons.mpr ⟨lw_p110, List.forall_mem_cons.mpr ⟨lw_p111, fun _ h => absurd h List.not_mem_nil⟩⟩⟩⟩⟩⟩⟩⟩⟩⟩⟩⟩⟩⟩⟩⟩
theorem lw_p112 : lw_okq (⟨"AvalancheInnModel", "goHours", "(I)V"⟩, 77) := ⟨⟨by decide +kernel, by decide +kernel⟩, List.mem_of_getElem? (i := 1268) (by decide +kernel), List.mem_of_getElem? (i := 1896) (by decide +kernel), List.mem_of_getElem? (i := 1897) (by decide +kernel)⟩
theorem lw_p113 : lw_okq (⟨"AvalancheInnModel", "leftBehind", "(I)I"⟩, 77) := ⟨⟨by decide +kernel, by decide +kernel⟩, List.mem_of_getElem? (i := 1268) (by decide +kernel), List.mem_of_getElem? (i := 1904) (by decide +kernel), List.mem_of_getElem? (i := 1905) (by decide +kernel)⟩
theorem lw_p114 : lw_okq (⟨"AvalancheInnModel", "leftIn", "(I)I"⟩, 77) := ⟨⟨by decide +kernel, by decide +kernel⟩, List.mem_of_getElem? (i := 1268) (by decide +kernel), List.mem_of_getElem? (i := 1908) (by decide +kernel), List.mem_of_getElem? (i := 1909) (by decide +kernel)⟩
theorem lw_p115 : lw_okq (⟨"AvalancheInnModel", "goneIn", "(I)I"⟩, 77) := ⟨⟨by decide +kernel, by decide +kernel⟩, List.mem_of_getElem? (i := 1268) (by decide +kernel), List.mem_of_getElem? (i := 1920) (by decide +kernel), List.mem_of_getElem? (i := 1921) (by decide +kernel)⟩
theorem lw_p116 : lw_okq (⟨"AvalancheInnModel", "soonestIn", "(I)I"⟩, 77) := ⟨⟨by decide +kernel, by decide +kernel⟩, List.mem_of_getElem? (i := 1268) (by decide +kernel), List.mem_of_getElem? (i := 1933) (by decide +kernel), List.mem_of_getElem? (i := 1934) (by decide +kernel)⟩
theorem lw_p117 : lw_okq (⟨"AvalancheInnModel", "bruntOf", "(II)I"⟩, 77) := ⟨⟨by decide +kernel, by decide +kernel⟩, List.mem_of_getElem? (i := 1268) (by decide +kernel), List.mem_of_getElem? (i := 1945) (by decide +kernel), List.mem_of_getElem? (i := 1946) (by decide +kernel)⟩
theorem lw_p118 : lw_okq (⟨"AvalancheInnModel", "isPlaced", "(I)Z"⟩, 77) := ⟨⟨by decide +kernel, by decide +kernel⟩, List.mem_of_getElem? (i := 1268) (by decide +kernel), List.mem_of_getElem? (i := 1968) (by decide +kernel), List.mem_of_getElem? (i := 1969) (by decide +kernel)⟩
theorem lw_p119 : lw_okq (⟨"AvalancheInnModel", "laneIn", "(II)I"⟩, 77) := ⟨⟨by decide +kernel, by decide +kernel⟩, List.mem_of_getElem? (i := 1268) (by decide +kernel), List.mem_of_getElem? (i := 1972) (by decide +kernel), List.mem_of_getElem? (i := 1973) (by decide +kernel)⟩
theorem lw_p120 : lw_okq (⟨"AvalancheInnModel", "sing", "(II)V"⟩, 77) := ⟨⟨by decide +kernel, by decide +kernel⟩, List.mem_of_getElem? (i := 1268) (by decide +kernel), List.mem_of_getElem? (i := 1996) (by decide +kernel), List.mem_of_getElem? (i := 1997) (by decide +kernel)⟩
theorem lw_p121 : lw_okq (⟨"AvalancheInnModel", "gainOf", "(III)I"⟩, 77) := ⟨⟨by decide +kernel, by decide +kernel⟩, List.mem_of_getElem? (i := 1268) (by decide +kernel), List.mem_of_getElem? (i := 2000) (by decide +kernel), List.mem_of_getElem? (i := 2001) (by decide +kernel)⟩
theorem lw_p122 : lw_okq (⟨"AvalancheInnModel", "layGone", "()V"⟩, 77) := ⟨⟨by decide +kernel, by decide +kernel⟩, List.mem_of_getElem? (i := 1268) (by decide +kernel), List.mem_of_getElem? (i := 2028) (by decide +kernel), List.mem_of_getElem? (i := 2029) (by decide +kernel)⟩
theorem lw_p123 : lw_okq (⟨"AvalancheInnModel", "doesFit", "(II)Z"⟩, 77) := ⟨⟨by decide +kernel, by decide +kernel⟩, List.mem_of_getElem? (i := 1268) (by decide +kernel), List.mem_of_getElem? (i := 2032) (by decide +kernel), List.mem_of_getElem? (i := 2033) (by decide +kernel)⟩
theorem lw_p124 : lw_okq (⟨"AvalancheInnModel", "goneBy", "(II)I"⟩, 77) := ⟨⟨by decide +kernel, by decide +kernel⟩, List.mem_of_getElem? (i := 1268) (by decide +kernel), List.mem_of_getElem? (i := 2036) (by decide +kernel), List.mem_of_getElem? (i := 2037) (by decide +kernel)⟩
theorem lw_p125 : lw_okq (⟨"AvalancheInnModel", "mostBehind", "(II)I"⟩, 77) := ⟨⟨by decide +kernel, by decide +kernel⟩, List.mem_of_getElem? (i := 1268) (by decide +kernel), List.mem_of_getElem? (i := 2049) (by decide +kernel), List.mem_of_getElem? (i := 2050) (by decide +kernel)⟩
def lw_privs_8 : List (MethodName × Nat) := [(⟨"AvalancheInnModel", "goHours", "(I)V"⟩, 77), (⟨"AvalancheInnModel", "leftBehind", "(I)I"⟩, 77), (⟨"AvalancheInnModel", "leftIn", "(I)I"⟩, 77), (⟨"AvalancheInnModel", "goneIn", "(I)I"⟩, 77), (⟨"AvalancheInnModel", "soonestIn", "(I)I"⟩, 77), (⟨"AvalancheInnModel", "bruntOf", "(II)I"⟩, 77), (⟨"AvalancheInnModel", "isPlaced", "(I)Z"⟩, 77), (⟨"AvalancheInnModel", "laneIn", "(II)I"⟩, 77), (⟨"AvalancheInnModel", "sing", "(II)V"⟩, 77), (⟨"AvalancheInnModel", "gainOf", "(III)I"⟩, 77), (⟨"AvalancheInnModel", "layGone", "()V"⟩, 77), (⟨"AvalancheInnModel", "doesFit", "(II)Z"⟩, 77), (⟨"AvalancheInnModel", "goneBy", "(II)I"⟩, 77), (⟨"AvalancheInnModel", "mostBehind", "(II)I"⟩, 77)]
theorem lw_r8 : ∀ q ∈ lw_privs_8, lw_okq q := List.forall_mem_cons.mpr ⟨lw_p112, List.forall_mem_cons.mpr ⟨lw_p113, List.forall_mem_cons.mpr ⟨lw_p114, List.forall_mem_cons.mpr ⟨lw_p115, List.forall_mem_cons.mpr ⟨lw_p116, List.forall_mem_cons.mpr ⟨lw_p117, List.forall_mem_cons.mpr ⟨lw_p118, List.forall_mem_cons.mpr ⟨lw_p119, List.forall_mem_cons.mpr ⟨lw_p120, List.forall_mem_cons.mpr ⟨lw_p121, List.forall_mem_cons.mpr ⟨lw_p122, List.forall_mem_cons.mpr ⟨lw_p123, List.forall_mem_cons.mpr ⟨lw_p124, List.forall_mem_cons.mpr ⟨lw_p125, fun _ h => absurd h List.not_mem_nil⟩⟩⟩⟩⟩⟩⟩⟩⟩⟩⟩⟩⟩⟩
def lw_privs : List (MethodName × Nat) := lw_privs_1 ++ (lw_privs_2 ++ (lw_privs_3 ++ (lw_privs_4 ++ (lw_privs_5 ++ (lw_privs_6 ++ (lw_privs_7 ++ (lw_privs_8)))))))
def lw_tbl : List Cond := k2_sels lw_privs ++ tables_1
theorem lw_privs_ok : ∀ q ∈ lw_privs, lw_okq q := by
  show ∀ q ∈ lw_privs_1 ++ (lw_privs_2 ++ (lw_privs_3 ++ (lw_privs_4 ++ (lw_privs_5 ++ (lw_privs_6 ++ (lw_privs_7 ++ (lw_privs_8))))))), lw_okq q
  exact List.forall_mem_append.mpr ⟨lw_r1, List.forall_mem_append.mpr ⟨lw_r2, List.forall_mem_append.mpr ⟨lw_r3, List.forall_mem_append.mpr ⟨lw_r4, List.forall_mem_append.mpr ⟨lw_r5, List.forall_mem_append.mpr ⟨lw_r6, List.forall_mem_append.mpr ⟨lw_r7, lw_r8⟩⟩⟩⟩⟩⟩⟩
-- ===== end of PART A; then your names; then what follows =====
def RX0 : String := "AvalancheInn$Formula"
def TX0 : u_T := fun k => match k with
  | 0 => ("AvalancheInn$Formula", "kinds", "[I", true)
  | 1 => ("AvalancheInn$Formula", "numbers", "[I", true)
  | 2 => ("AvalancheInn$Formula", "stack", "[I", true)
  | 3 => ("AvalancheInn$Formula", "steps", "I", false)
  | 4 => ("AvalancheInn$Formula", "usual", "Z", false)
  | 5 => ("AvalancheInn$Formula", "units", "I", false)
  | _ => ("AvalancheInn$Formula", "heedsNoise", "Z", false)
def tyX0 : Nat → FieldType := fun k => match k with
  | 0 => .array .int
  | 1 => .array .int
  | 2 => .array .int
  | 3 => .int
  | 4 => .boolean
  | 5 => .int
  | _ => .boolean
abbrev wsX00 : List Cond := u_ws RX0 TX0 7
theorem nmX0 : ∀ a, a < 7 → ∀ b, b < 7 → a ≠ b → (TX0 a).2.1 ≠ (TX0 b).2.1 := by decide +kernel
theorem tyX0_ok : ∀ k, k < 7 → parseFieldDescriptor (TX0 k).2.2.1 = some (tyX0 k) := by decide +kernel
def RX1 : String := "AvalancheInn$Hill"
def TX1 : u_T := fun k => match k with
  | 0 => ("AvalancheInn$Hill", "supposed", "LAvalancheInn$State;", true)
  | 1 => ("AvalancheInn$Hill", "facts", "[I", true)
  | 2 => ("AvalancheInn$Hill", "pass", "LAvalancheInn$Pass;", false)
  | 3 => ("AvalancheInn$Hill", "state", "LAvalancheInn$State;", false)
  | 4 => ("AvalancheInn$Hill", "noises", "[I", true)
  | 5 => ("AvalancheInn$Hill", "brunts", "[I", true)
  | 6 => ("AvalancheInn$Hill", "heaviest", "[I", true)
  | 7 => ("AvalancheInn$Hill", "tipped", "I", false)
  | 8 => ("AvalancheInn$Hill", "endLane", "I", false)
  | _ => ("AvalancheInn$Hill", "endLoad", "I", false)
def tyX1 : Nat → FieldType := fun k => match k with
  | 0 => .object "AvalancheInn$State"
  | 1 => .array .int
  | 2 => .object "AvalancheInn$Pass"
  | 3 => .object "AvalancheInn$State"
  | 4 => .array .int
  | 5 => .array .int
  | 6 => .array .int
  | 7 => .int
  | 8 => .int
  | _ => .int
abbrev wsX10 : List Cond := u_ws RX1 TX1 10
theorem nmX1 : ∀ a, a < 10 → ∀ b, b < 10 → a ≠ b → (TX1 a).2.1 ≠ (TX1 b).2.1 := by decide +kernel
theorem tyX1_ok : ∀ k, k < 10 → parseFieldDescriptor (TX1 k).2.2.1 = some (tyX1 k) := by decide +kernel
def RX2 : String := "AvalancheInn$Journal"
def TX2 : u_T := fun k => match k with
  | 0 => ("AvalancheInn$Journal", "ring", "[LAvalancheInn$State;", true)
  | 1 => ("AvalancheInn$Journal", "at", "I", false)
  | 2 => ("AvalancheInn$Journal", "undoable", "I", false)
  | _ => ("AvalancheInn$Journal", "redoable", "I", false)
def tyX2 : Nat → FieldType := fun k => match k with
  | 0 => .array (.object "AvalancheInn$State")
  | 1 => .int
  | 2 => .int
  | _ => .int
abbrev wsX20 : List Cond := u_ws RX2 TX2 4
theorem nmX2 : ∀ a, a < 4 → ∀ b, b < 4 → a ≠ b → (TX2 a).2.1 ≠ (TX2 b).2.1 := by decide +kernel
theorem tyX2_ok : ∀ k, k < 4 → parseFieldDescriptor (TX2 k).2.2.1 = some (tyX2 k) := by decide +kernel
def RX3 : String := "AvalancheInn$Lexer"
def TX3 : u_T := fun k => match k with
  | 0 => ("AvalancheInn$Lexer", "text", "[B", false)
  | 1 => ("AvalancheInn$Lexer", "words", "[J", true)
  | 2 => ("AvalancheInn$Lexer", "length", "I", false)
  | 3 => ("AvalancheInn$Lexer", "at", "I", false)
  | 4 => ("AvalancheInn$Lexer", "kind", "I", false)
  | 5 => ("AvalancheInn$Lexer", "place", "I", false)
  | 6 => ("AvalancheInn$Lexer", "value", "I", false)
  | _ => ("AvalancheInn$Lexer", "letters", "J", false)
def tyX3 : Nat → FieldType := fun k => match k with
  | 0 => .array .byte
  | 1 => .array .long
  | 2 => .int
  | 3 => .int
  | 4 => .int
  | 5 => .int
  | 6 => .int
  | _ => .long
abbrev wsX30 : List Cond := u_ws RX3 TX3 8
theorem nmX3 : ∀ a, a < 8 → ∀ b, b < 8 → a ≠ b → (TX3 a).2.1 ≠ (TX3 b).2.1 := by decide +kernel
theorem tyX3_ok : ∀ k, k < 8 → parseFieldDescriptor (TX3 k).2.2.1 = some (tyX3 k) := by decide +kernel
def RX4 : String := "AvalancheInn$Memory"
def TX4 : u_T := fun k => match k with
  | 0 => ("AvalancheInn$Memory", "hours", "[I", true)
  | 1 => ("AvalancheInn$Memory", "rooms", "[I", true)
  | 2 => ("AvalancheInn$Memory", "wasGone", "[Z", true)
  | 3 => ("AvalancheInn$Memory", "toldAt", "[I", true)
  | 4 => ("AvalancheInn$Memory", "untoldAt", "[I", true)
  | 5 => ("AvalancheInn$Memory", "goneBy", "[I", true)
  | 6 => ("AvalancheInn$Memory", "workedOut", "Z", false)
  | 7 => ("AvalancheInn$Memory", "count", "I", false)
  | 8 => ("AvalancheInn$Memory", "time", "I", false)
  | 9 => ("AvalancheInn$Memory", "fitting", "I", false)
  | 10 => ("AvalancheInn$Memory", "questionHours", "I", false)
  | _ => ("AvalancheInn$Memory", "questionLeft", "I", false)
def tyX4 : Nat → FieldType := fun k => match k with
  | 0 => .array .int
  | 1 => .array .int
  | 2 => .array .boolean
  | 3 => .array .int
  | 4 => .array .int
  | 5 => .array .int
  | 6 => .boolean
  | 7 => .int
  | 8 => .int
  | 9 => .int
  | 10 => .int
  | _ => .int
abbrev wsX40 : List Cond := u_ws RX4 TX4 12
theorem nmX4 : ∀ a, a < 12 → ∀ b, b < 12 → a ≠ b → (TX4 a).2.1 ≠ (TX4 b).2.1 := by decide +kernel
theorem tyX4_ok : ∀ k, k < 12 → parseFieldDescriptor (TX4 k).2.2.1 = some (tyX4 k) := by decide +kernel
def RX5 : String := "AvalancheInn$Parser"
def TX5 : u_T := fun k => match k with
  | 0 => ("AvalancheInn$Parser", "lexer", "LAvalancheInn$Lexer;", true)
  | 1 => ("AvalancheInn$Parser", "roomNames", "[J", true)
  | 2 => ("AvalancheInn$Parser", "guestNames", "[J", true)
  | 3 => ("AvalancheInn$Parser", "pass", "LAvalancheInn$Pass;", false)
  | 4 => ("AvalancheInn$Parser", "linesTold", "I", false)
  | 5 => ("AvalancheInn$Parser", "slopesTold", "I", false)
  | 6 => ("AvalancheInn$Parser", "liesTold", "I", false)
  | 7 => ("AvalancheInn$Parser", "wallsTold", "I", false)
  | 8 => ("AvalancheInn$Parser", "value", "I", false)
  | 9 => ("AvalancheInn$Parser", "faultKind", "I", false)
  | _ => ("AvalancheInn$Parser", "faultPlace", "I", false)
def tyX5 : Nat → FieldType := fun k => match k with
  | 0 => .object "AvalancheInn$Lexer"
  | 1 => .array .long
  | 2 => .array .long
  | 3 => .object "AvalancheInn$Pass"
  | 4 => .int
  | 5 => .int
  | 6 => .int
  | 7 => .int
  | 8 => .int
  | 9 => .int
  | _ => .int
abbrev wsX50 : List Cond := u_ws RX5 TX5 11
theorem nmX5 : ∀ a, a < 11 → ∀ b, b < 11 → a ≠ b → (TX5 a).2.1 ≠ (TX5 b).2.1 := by decide +kernel
theorem tyX5_ok : ∀ k, k < 11 → parseFieldDescriptor (TX5 k).2.2.1 = some (tyX5 k) := by decide +kernel
def RX6 : String := "AvalancheInn$Pass"
def TX6 : u_T := fun k => match k with
  | 0 => ("AvalancheInn$Pass", "lanes", "I", false)
  | 1 => ("AvalancheInn$Pass", "rows", "I", false)
  | 2 => ("AvalancheInn$Pass", "steep", "[I", true)
  | 3 => ("AvalancheInn$Pass", "rooms", "I", false)
  | 4 => ("AvalancheInn$Pass", "bears", "[I", true)
  | 5 => ("AvalancheInn$Pass", "rates", "[I", true)
  | 6 => ("AvalancheInn$Pass", "guests", "I", false)
  | 7 => ("AvalancheInn$Pass", "guestRooms", "[I", true)
  | 8 => ("AvalancheInn$Pass", "guestNoises", "[I", true)
  | 9 => ("AvalancheInn$Pass", "guestFroms", "[I", true)
  | 10 => ("AvalancheInn$Pass", "guestTos", "[I", true)
  | 11 => ("AvalancheInn$Pass", "tips", "LAvalancheInn$Formula;", true)
  | 12 => ("AvalancheInn$Pass", "falls", "I", false)
  | 13 => ("AvalancheInn$Pass", "wind", "I", false)
  | _ => ("AvalancheInn$Pass", "first", "LAvalancheInn$State;", true)
def tyX6 : Nat → FieldType := fun k => match k with
  | 0 => .int
  | 1 => .int
  | 2 => .array .int
  | 3 => .int
  | 4 => .array .int
  | 5 => .array .int
  | 6 => .int
  | 7 => .array .int
  | 8 => .array .int
  | 9 => .array .int
  | 10 => .array .int
  | 11 => .object "AvalancheInn$Formula"
  | 12 => .int
  | 13 => .int
  | _ => .object "AvalancheInn$State"
abbrev wsX60 : List Cond := u_ws RX6 TX6 15
theorem nmX6 : ∀ a, a < 15 → ∀ b, b < 15 → a ≠ b → (TX6 a).2.1 ≠ (TX6 b).2.1 := by decide +kernel
theorem tyX6_ok : ∀ k, k < 15 → parseFieldDescriptor (TX6 k).2.2.1 = some (tyX6 k) := by decide +kernel
def RX7 : String := "AvalancheInn$Planner"
def TX7 : u_T := fun k => match k with
  | 0 => ("AvalancheInn$Planner", "hill", "LAvalancheInn$Hill;", true)
  | 1 => ("AvalancheInn$Planner", "pass", "LAvalancheInn$Pass;", false)
  | 2 => ("AvalancheInn$Planner", "now", "LAvalancheInn$State;", false)
  | 3 => ("AvalancheInn$Planner", "bestLanes", "[I", true)
  | 4 => ("AvalancheInn$Planner", "trialLanes", "[I", true)
  | 5 => ("AvalancheInn$Planner", "gains", "[I", true)
  | 6 => ("AvalancheInn$Planner", "bestLane", "I", false)
  | 7 => ("AvalancheInn$Planner", "bestRow", "I", false)
  | 8 => ("AvalancheInn$Planner", "bestSide", "I", false)
  | 9 => ("AvalancheInn$Planner", "bestLeft", "I", false)
  | _ => ("AvalancheInn$Planner", "firstRest", "I", false)
def tyX7 : Nat → FieldType := fun k => match k with
  | 0 => .object "AvalancheInn$Hill"
  | 1 => .object "AvalancheInn$Pass"
  | 2 => .object "AvalancheInn$State"
  | 3 => .array .int
  | 4 => .array .int
  | 5 => .array .int
  | 6 => .int
  | 7 => .int
  | 8 => .int
  | 9 => .int
  | _ => .int
abbrev wsX70 : List Cond := u_ws RX7 TX7 11
theorem nmX7 : ∀ a, a < 11 → ∀ b, b < 11 → a ≠ b → (TX7 a).2.1 ≠ (TX7 b).2.1 := by decide +kernel
theorem tyX7_ok : ∀ k, k < 11 → parseFieldDescriptor (TX7 k).2.2.1 = some (tyX7 k) := by decide +kernel
def RX8 : String := "AvalancheInn$State"
def TX8 : u_T := fun k => match k with
  | 0 => ("AvalancheInn$State", "snow", "[I", true)
  | 1 => ("AvalancheInn$State", "walls", "[I", true)
  | 2 => ("AvalancheInn$State", "lanes", "[I", true)
  | 3 => ("AvalancheInn$State", "gone", "I", false)
  | 4 => ("AvalancheInn$State", "hushed", "I", false)
  | 5 => ("AvalancheInn$State", "purse", "I", false)
  | 6 => ("AvalancheInn$State", "hour", "I", false)
  | _ => ("AvalancheInn$State", "seed", "I", false)
def tyX8 : Nat → FieldType := fun k => match k with
  | 0 => .array .int
  | 1 => .array .int
  | 2 => .array .int
  | 3 => .int
  | 4 => .int
  | 5 => .int
  | 6 => .int
  | _ => .int
abbrev wsX80 : List Cond := u_ws RX8 TX8 8
theorem nmX8 : ∀ a, a < 8 → ∀ b, b < 8 → a ≠ b → (TX8 a).2.1 ≠ (TX8 b).2.1 := by decide +kernel
theorem tyX8_ok : ∀ k, k < 8 → parseFieldDescriptor (TX8 k).2.2.1 = some (tyX8 k) := by decide +kernel
def RX9 : String := "AvalancheInn"
def TX9 : u_T := fun k => match k with
  | 0 => ("AvalancheInn", "tape", "[B", true)
  | 1 => ("AvalancheInn", "tapeLength", "I", false)
  | 2 => ("AvalancheInn", "parser", "LAvalancheInn$Parser;", true)
  | 3 => ("AvalancheInn", "told", "LAvalancheInn$Pass;", false)
  | 4 => ("AvalancheInn", "spare", "LAvalancheInn$Pass;", false)
  | 5 => ("AvalancheInn", "journal", "LAvalancheInn$Journal;", true)
  | 6 => ("AvalancheInn", "boxes", "[LAvalancheInn$State;", true)
  | 7 => ("AvalancheInn", "fullBoxes", "I", false)
  | 8 => ("AvalancheInn", "hill", "LAvalancheInn$Hill;", true)
  | 9 => ("AvalancheInn", "planner", "LAvalancheInn$Planner;", true)
  | 10 => ("AvalancheInn", "memory", "LAvalancheInn$Memory;", true)
  | 11 => ("AvalancheInn", "lying", "[I", true)
  | _ => ("AvalancheInn", "lyingCount", "I", false)
def tyX9 : Nat → FieldType := fun k => match k with
  | 0 => .array .byte
  | 1 => .int
  | 2 => .object "AvalancheInn$Parser"
  | 3 => .object "AvalancheInn$Pass"
  | 4 => .object "AvalancheInn$Pass"
  | 5 => .object "AvalancheInn$Journal"
  | 6 => .array (.object "AvalancheInn$State")
  | 7 => .int
  | 8 => .object "AvalancheInn$Hill"
  | 9 => .object "AvalancheInn$Planner"
  | 10 => .object "AvalancheInn$Memory"
  | 11 => .array .int
  | _ => .int
abbrev wsX90 : List Cond := u_ws RX9 TX9 13
theorem nmX9 : ∀ a, a < 13 → ∀ b, b < 13 → a ≠ b → (TX9 a).2.1 ≠ (TX9 b).2.1 := by decide +kernel
theorem tyX9_ok : ∀ k, k < 13 → parseFieldDescriptor (TX9 k).2.2.1 = some (tyX9 k) := by decide +kernel
def RX10 : String := "AvalancheInnModel"
def TX10 : u_T := fun k => match k with
  | 0 => ("AvalancheInnModel", "tape", "[B", true)
  | 1 => ("AvalancheInnModel", "text", "[B", true)
  | 2 => ("AvalancheInnModel", "taped", "I", false)
  | 3 => ("AvalancheInnModel", "size", "I", false)
  | 4 => ("AvalancheInnModel", "faultKind", "I", false)
  | 5 => ("AvalancheInnModel", "faultPlace", "I", false)
  | 6 => ("AvalancheInnModel", "at", "I", false)
  | 7 => ("AvalancheInnModel", "end", "I", false)
  | 8 => ("AvalancheInnModel", "token", "I", false)
  | 9 => ("AvalancheInnModel", "number", "I", false)
  | 10 => ("AvalancheInnModel", "name", "J", false)
  | 11 => ("AvalancheInnModel", "lanes", "[I", true)
  | 12 => ("AvalancheInnModel", "rows", "[I", true)
  | 13 => ("AvalancheInnModel", "rooms", "[I", true)
  | 14 => ("AvalancheInnModel", "guests", "[I", true)
  | 15 => ("AvalancheInnModel", "units", "[I", true)
  | 16 => ("AvalancheInnModel", "falls", "[I", true)
  | 17 => ("AvalancheInnModel", "wind", "[I", true)
  | 18 => ("AvalancheInnModel", "draw", "[I", true)
  | 19 => ("AvalancheInnModel", "told", "[I", true)
  | 20 => ("AvalancheInnModel", "slopesTold", "[I", true)
  | 21 => ("AvalancheInnModel", "liesTold", "[I", true)
  | 22 => ("AvalancheInnModel", "wallsTold", "[I", true)
  | 23 => ("AvalancheInnModel", "steep", "[I", true)
  | 24 => ("AvalancheInnModel", "snowTold", "[I", true)
  | 25 => ("AvalancheInnModel", "wallTold", "[I", true)
  | 26 => ("AvalancheInnModel", "laneTold", "[I", true)
  | 27 => ("AvalancheInnModel", "bears", "[I", true)
  | 28 => ("AvalancheInnModel", "rate", "[I", true)
  | 29 => ("AvalancheInnModel", "roomOf", "[I", true)
  | 30 => ("AvalancheInnModel", "noiseOf", "[I", true)
  | 31 => ("AvalancheInnModel", "from", "[I", true)
  | 32 => ("AvalancheInnModel", "to", "[I", true)
  | 33 => ("AvalancheInnModel", "ruleFrom", "[I", true)
  | 34 => ("AvalancheInnModel", "ruleTo", "[I", true)
  | 35 => ("AvalancheInnModel", "rName", "[J", true)
  | 36 => ("AvalancheInnModel", "gName", "[J", true)
  | 37 => ("AvalancheInnModel", "code", "[I", true)
  | 38 => ("AvalancheInnModel", "codeNumber", "[I", true)
  | 39 => ("AvalancheInnModel", "eWhat", "[I", true)
  | 40 => ("AvalancheInnModel", "eSign", "[I", true)
  | 41 => ("AvalancheInnModel", "pile", "[I", true)
  | 42 => ("AvalancheInnModel", "bank", "I", false)
  | 43 => ("AvalancheInnModel", "rb", "I", false)
  | 44 => ("AvalancheInnModel", "codes", "I", false)
  | 45 => ("AvalancheInnModel", "within", "I", false)
  | 46 => ("AvalancheInnModel", "piled", "I", false)
  | 47 => ("AvalancheInnModel", "unitsInRule", "I", false)
  | 48 => ("AvalancheInnModel", "isLate", "Z", false)
  | 49 => ("AvalancheInnModel", "askLane", "I", false)
  | 50 => ("AvalancheInnModel", "askRow", "I", false)
  | 51 => ("AvalancheInnModel", "askNoise", "I", false)
  | 52 => ("AvalancheInnModel", "all", "[I", true)
  | 53 => ("AvalancheInnModel", "kept", "[I", true)
  | 54 => ("AvalancheInnModel", "loads", "[I", true)
  | 55 => ("AvalancheInnModel", "thoughtFalls", "I", false)
  | 56 => ("AvalancheInnModel", "tipped", "I", false)
  | 57 => ("AvalancheInnModel", "trackLane", "I", false)
  | 58 => ("AvalancheInnModel", "trackLoad", "I", false)
  | 59 => ("AvalancheInnModel", "was", "[I", true)
  | 60 => ("AvalancheInnModel", "acts", "I", false)
  | 61 => ("AvalancheInnModel", "undone", "I", false)
  | 62 => ("AvalancheInnModel", "laidRow", "[I", true)
  | 63 => ("AvalancheInnModel", "laid", "I", false)
  | 64 => ("AvalancheInnModel", "gainOne", "[I", true)
  | 65 => ("AvalancheInnModel", "gainOther", "[I", true)
  | 66 => ("AvalancheInnModel", "goneIf", "[I", true)
  | 67 => ("AvalancheInnModel", "sHours", "[I", true)
  | 68 => ("AvalancheInnModel", "sRoom", "[I", true)
  | 69 => ("AvalancheInnModel", "sIs", "[I", true)
  | 70 => ("AvalancheInnModel", "sTold", "[I", true)
  | 71 => ("AvalancheInnModel", "sUntold", "[I", true)
  | 72 => ("AvalancheInnModel", "parted", "[I", true)
  | 73 => ("AvalancheInnModel", "seens", "I", false)
  | 74 => ("AvalancheInnModel", "time", "I", false)
  | 75 => ("AvalancheInnModel", "boxAll", "[I", true)
  | _ => ("AvalancheInnModel", "isBoxed", "[Z", true)
def tyX10 : Nat → FieldType := fun k => match k with
  | 0 => .array .byte
  | 1 => .array .byte
  | 2 => .int
  | 3 => .int
  | 4 => .int
  | 5 => .int
  | 6 => .int
  | 7 => .int
  | 8 => .int
  | 9 => .int
  | 10 => .long
  | 11 => .array .int
  | 12 => .array .int
  | 13 => .array .int
  | 14 => .array .int
  | 15 => .array .int
  | 16 => .array .int
  | 17 => .array .int
  | 18 => .array .int
  | 19 => .array .int
  | 20 => .array .int
  | 21 => .array .int
  | 22 => .array .int
  | 23 => .array .int
  | 24 => .array .int
  | 25 => .array .int
  | 26 => .array .int
  | 27 => .array .int
  | 28 => .array .int
  | 29 => .array .int
  | 30 => .array .int
  | 31 => .array .int
  | 32 => .array .int
  | 33 => .array .int
  | 34 => .array .int
  | 35 => .array .long
  | 36 => .array .long
  | 37 => .array .int
  | 38 => .array .int
  | 39 => .array .int
  | 40 => .array .int
  | 41 => .array .int
  | 42 => .int
  | 43 => .int
  | 44 => .int
  | 45 => .int
  | 46 => .int
  | 47 => .int
  | 48 => .boolean
  | 49 => .int
  | 50 => .int
  | 51 => .int
  | 52 => .array .int
  | 53 => .array .int
  | 54 => .array .int
  | 55 => .int
  | 56 => .int
  | 57 => .int
  | 58 => .int
  | 59 => .array .int
  | 60 => .int
  | 61 => .int
  | 62 => .array .int
  | 63 => .int
  | 64 => .array .int
  | 65 => .array .int
  | 66 => .array .int
  | 67 => .array .int
  | 68 => .array .int
  | 69 => .array .int
  | 70 => .array .int
  | 71 => .array .int
  | 72 => .array .int
  | 73 => .int
  | 74 => .int
  | 75 => .array .int
  | _ => .array .boolean
abbrev wsX100 : List Cond := u_ws RX10 TX10 77
theorem nmX10 : ∀ a, a < 77 → ∀ b, b < 77 → a ≠ b → (TX10 a).2.1 ≠ (TX10 b).2.1 := by decide +kernel
theorem tyX10_ok : ∀ k, k < 77 → parseFieldDescriptor (TX10 k).2.2.1 = some (tyX10 k) := by decide +kernel
def RJx145de : String := "java/io/Serializable"
def RJx9f9b0 : String := "java/lang/CharSequence"
def RJ11 : String := "java/lang/Character"
def RJxb160c : String := "java/lang/Comparable"
def RJ6 : String := "java/lang/Integer"
def RJ9 : String := "java/lang/Math"
def RJ0 : String := "java/lang/String"
def RJ1 : String := "java/lang/StringLatin1"
def RJ2 : String := "java/lang/StringUTF16"
def RJ10 : String := "java/lang/System"
def RJxfd54e : String := "java/lang/constant/Constable"
def RJx3cf43 : String := "java/lang/constant/ConstantDesc"
def RJ7 : String := "java/util/Arrays"
def RJ3 : String := "jdk/internal/util/Preconditions"
def RL : String := "AvalancheInnLaw"
abbrev vwCl : List vw_C := [(RX0, TX0, 7), (RX1, TX1, 10), (RX2, TX2, 4), (RX3, TX3, 8), (RX4, TX4, 12), (RX5, TX5, 11), (RX6, TX6, 15), (RX7, TX7, 11), (RX8, TX8, 8), (RX9, TX9, 13), (RX10, TX10, 77)]
end
section
/-! ===== a small machine: a world is a list of cells, a cell a kind and its values; what it runs, the machine runs ===== -/
abbrev MjW : Type := List (Nat × List Value)
abbrev MjL : Type := List (Option Value)
abbrev MjF : Type := Nat × MjL × List Value × MjW
/-- a frame to go on with; a return; a call: the method, its arguments, the frame behind it -/
abbrev MjO : Type := MjF ⊕ ((Option Value × MjW) ⊕ (Nat × List Value × MjF))
def mjTr (B : Nat) (xa : Nat → Option Nat) (v : Value) : Value := match v with
  | .ref i => .ref (B + i)
  | .retAddr k => va_rf (xa k)
  | .int x => .int x
  | .long x => .long x
  | .float x => .float x
  | .double x => .double x
  | .null => .null
theorem mjTr_cat (B : Nat) (xa : Nat → Option Nat) (v : Value) : (mjTr B xa v).category = v.category := by
  cases v with
  | retAddr k =>
    show (va_rf (xa k)).category = 1
    cases xa k <;> rfl
  | _ => rfl
/-- the array's element type, by the cell's kind -/
def mjAT (k : Nat) : FieldType := match k with
  | 100 => .int
  | 101 => .byte
  | 102 => .boolean
  | 103 => .long
  | _ => .object "AvalancheInn$State"
-- ===== stack alone, one byte =====
def mjA (ins : Instr) (st : List Value) : Option (List Value) := match ins with
  | .iconst n => some (.int (Int32.ofInt n) :: st)
  | .lconst n => some (.long (Int64.ofNat (n : Nat)) :: st)
  | .iadd => match st with | .int y :: .int x :: r => some (.int (x + y) :: r) | _ => none
  | .isub => match st with | .int y :: .int x :: r => some (.int (x - y) :: r) | _ => none
  | .imul => match st with | .int y :: .int x :: r => some (.int (x * y) :: r) | _ => none
  | .idiv => match st with | .int y :: .int x :: r => if y = 0 then none else some (.int (x / y) :: r) | _ => none
  | .irem => match st with | .int y :: .int x :: r => if y = 0 then none else some (.int (x - x / y * y) :: r) | _ => none
  | .iand => match st with | .int y :: .int x :: r => some (.int (x &&& y) :: r) | _ => none
  | .ior => match st with | .int y :: .int x :: r => some (.int (x ||| y) :: r) | _ => none
  | .ixor => match st with | .int y :: .int x :: r => some (.int (x ^^^ y) :: r) | _ => none
  | .ishl => match st with | .int y :: .int x :: r => some (.int (x <<< (y &&& 31)) :: r) | _ => none
  | .ishr => match st with | .int y :: .int x :: r => some (.int (x >>> (y &&& 31)) :: r) | _ => none
  | .iushr => match st with | .int y :: .int x :: r => some (.int (x.toUInt32 >>> (y.toUInt32 &&& Int32.toUInt32 31)).toInt32 :: r) | _ => none
  | .ladd => match st with | .long y :: .long x :: r => some (.long (x + y) :: r) | _ => none
  | .lmul => match st with | .long y :: .long x :: r => some (.long (x * y) :: r) | _ => none
  | .lor => match st with | .long y :: .long x :: r => some (.long (x ||| y) :: r) | _ => none
  | .lshl => match st with | .int y :: .long x :: r => some (.long (x <<< (y.toInt64 &&& 63)) :: r) | _ => none
  | .lcmp => match st with | .long y :: .long x :: r => some (.int (lg_cmp x y) :: r) | _ => none
  | .i2l => match st with | .int x :: r => some (.long x.toInt64 :: r) | _ => none
  | .i2b => match st with | .int x :: r => some (.int x.toInt8.toInt32 :: r) | _ => none
  | .i2c => match st with | .int x :: r => some (.int (x.toUInt32 % 65536).toInt32 :: r) | _ => none
  | .dup => match st with | v :: r => if v.category = 1 then some (v :: v :: r) else none | _ => none
  | .pop => match st with | v :: r => if v.category = 1 then some r else none | _ => none
  | .dup2 => match st with | v :: u :: r => if v.category = 1 ∧ u.category = 1 then some (v :: u :: v :: u :: r) else none | _ => none
  | _ => none
-- ===== locals =====
def mjLd (ins : Instr) (ls : MjL) : Option (Value × Nat) := match ins with
  | .iload_n k => match ls[(k : Nat)]? with | some (some (.int x)) => some (.int x, 1) | _ => none
  | .iload k => match ls[k]? with | some (some (.int x)) => some (.int x, 2) | _ => none
  | .lload_n k => match ls[(k : Nat)]? with | some (some (.long x)) => some (.long x, 1) | _ => none
  | .lload k => match ls[k]? with | some (some (.long x)) => some (.long x, 2) | _ => none
  | .aload_n k => match ls[(k : Nat)]? with | some (some (.ref x)) => some (.ref x, 1) | some (some (.retAddr x)) => if x = 4 then none else some (.retAddr x, 1) | _ => none
  | .aload k => match ls[k]? with | some (some (.ref x)) => some (.ref x, 2) | some (some (.retAddr x)) => if x = 4 then none else some (.retAddr x, 2) | _ => none
  | _ => none
/-- no long ends at this place -/
def mjFree (ls : MjL) (i : Nat) : Bool := match i with
  | 0 => true
  | j + 1 => match ls[j]? with | some (some u) => u.category == 1 | _ => true
def mjS1 (ls : MjL) (i : Nat) (v : Value) : Option MjL := if i < ls.length ∧ mjFree ls i = true then some (ls.set i (some v)) else none
def mjS2 (ls : MjL) (i : Nat) (v : Value) : Option MjL := if i + 1 < ls.length ∧ mjFree ls i = true then some ((ls.set i (some v)).set (i + 1) none) else none
def mjSo (ins : Instr) (ls : MjL) (st : List Value) : Option (MjL × List Value × Nat) := match ins with
  | .istore_n k => match st with | .int x :: r => (mjS1 ls k (.int x)).map (fun q => (q, r, 1)) | _ => none
  | .istore k => match st with | .int x :: r => (mjS1 ls k (.int x)).map (fun q => (q, r, 2)) | _ => none
  | .astore_n k => match st with | .ref x :: r => (mjS1 ls k (.ref x)).map (fun q => (q, r, 1)) | .retAddr x :: r => if x = 4 then none else (mjS1 ls k (.retAddr x)).map (fun q => (q, r, 1)) | _ => none
  | .astore k => match st with | .ref x :: r => (mjS1 ls k (.ref x)).map (fun q => (q, r, 2)) | .retAddr x :: r => if x = 4 then none else (mjS1 ls k (.retAddr x)).map (fun q => (q, r, 2)) | _ => none
  | .lstore_n k => match st with | .long x :: r => (mjS2 ls k (.long x)).map (fun q => (q, r, 1)) | _ => none
  | .iinc k n => match ls[k]? with | some (some (.int x)) => (mjS1 ls k (.int (x + Int32.ofInt n))).map (fun q => (q, st, 3)) | _ => none
  | _ => none
def mjLr (B : Nat) (xa : Nat → Option Nat) (nL : Nat) (ls : MjL) (lm : Array Slot) : Prop := lm.size = nL ∧ ls.length = nL ∧ lv_wf lm ∧ ∀ (i : Nat) (v : Value), ls[i]? = some (some v) → lm[i]? = some (.val (mjTr B xa v))
def mjLv (B : Nat) (xa : Nat → Option Nat) (ls : MjL) : List (Nat × Value) := (List.range ls.length).filterMap (fun i => match ls[i]? with | some (some v) => some (i, mjTr B xa v) | _ => none)
theorem mjLv_mem {B : Nat} {xa : Nat → Option Nat} {ls : MjL} {q : Nat × Value} : q ∈ mjLv B xa ls ↔ ∃ v, ls[q.1]? = some (some v) ∧ q.2 = mjTr B xa v := by
  unfold mjLv
  rw [List.mem_filterMap]
  constructor
  · rintro ⟨i, -, h⟩
    split at h
    · rename_i v hv
      cases h
      exact ⟨v, hv, rfl⟩
    · cases h
  · rintro ⟨v, h1, h2⟩
    refine ⟨q.1, List.mem_range.mpr (List.getElem?_eq_some_iff.mp h1).1, ?_⟩
    rw [h1]
    show some (q.1, mjTr B xa v) = some q
    rw [← h2]
theorem mjLr.lv {B : Nat} {xa : Nat → Option Nat} {nL : Nat} {ls : MjL} {lm : Array Slot} (h : mjLr B xa nL ls lm) : lv_has lm nL (mjLv B xa ls) := by
  refine ⟨h.1, h.2.2.1, fun q hq => ?_⟩
  obtain ⟨v, h1, h2⟩ := mjLv_mem.mp hq
  rw [h2]
  exact h.2.2.2 _ _ h1
theorem mjLr.s1 {B : Nat} {xa : Nat → Option Nat} {nL i : Nat} {ls ls1 : MjL} {lm lm' : Array Slot} {v : Value} (h : mjLr B xa nL ls lm) (hs : mjS1 ls i v = some ls1) (h' : lv_has lm' nL ((i, mjTr B xa v) :: (mjLv B xa ls).filter (fun q => !(q.1 == i) && !(q.1 + 1 == i && q.2.category == 2)))) : mjLr B xa nL ls1 lm' := by
  unfold mjS1 at hs
  split at hs
  · rename_i hc
    cases hs
    refine ⟨h'.1, by rw [List.length_set]; exact h.2.1, h'.2.1, fun j u hj => ?_⟩
    rw [List.getElem?_set] at hj
    by_cases e : i = j
    · subst e
      rw [if_pos rfl, if_pos hc.1] at hj
      cases hj
      exact h'.2.2 (i, mjTr B xa v) List.mem_cons_self
    · rw [if_neg e] at hj
      refine h'.2.2 (j, mjTr B xa u) (List.mem_cons_of_mem _ (List.mem_filter.mpr ⟨mjLv_mem.mpr ⟨u, hj, rfl⟩, ?_⟩))
      have e1 : (j == i) = false := by simp; omega
      rw [e1]
      by_cases e2 : j + 1 = i
      · subst e2
        have hf := hc.2
        simp only [mjFree, hj] at hf
        have hu : u.category = 1 := by simpa using hf
        simp [mjTr_cat, hu]
      · have e3 : (j + 1 == i) = false := by simp; omega
        simp [e3]
  · cases hs
theorem mjLr.s2 {B : Nat} {xa : Nat → Option Nat} {nL i : Nat} {ls ls1 : MjL} {lm lm' : Array Slot} {v : Value} (h : mjLr B xa nL ls lm) (hs : mjS2 ls i v = some ls1) (h' : lv_has lm' nL ((i, mjTr B xa v) :: (mjLv B xa ls).filter (fun q => !(q.1 == i) && (!(q.1 == i + 1) && !(q.1 + 1 == i && q.2.category == 2))))) : mjLr B xa nL ls1 lm' := by
  unfold mjS2 at hs
  split at hs
  · rename_i hc
    cases hs
    refine ⟨h'.1, by rw [List.length_set, List.length_set]; exact h.2.1, h'.2.1, fun j u hj => ?_⟩
    rw [List.getElem?_set] at hj
    by_cases e0 : i + 1 = j
    · subst e0
      rw [if_pos rfl] at hj
      split at hj <;> cases hj
    rw [if_neg e0, List.getElem?_set] at hj
    by_cases e : i = j
    · subst e
      rw [if_pos rfl, if_pos (by omega)] at hj
      cases hj
      exact h'.2.2 (i, mjTr B xa v) List.mem_cons_self
    · rw [if_neg e] at hj
      refine h'.2.2 (j, mjTr B xa u) (List.mem_cons_of_mem _ (List.mem_filter.mpr ⟨mjLv_mem.mpr ⟨u, hj, rfl⟩, ?_⟩))
      have e1 : (j == i) = false := by simp; omega
      have e4 : (j == i + 1) = false := by simp; omega
      rw [e1, e4]
      by_cases e2 : j + 1 = i
      · subst e2
        have hf := hc.2
        simp only [mjFree, hj] at hf
        have hu : u.category = 1 := by simpa using hf
        simp [mjTr_cat, hu]
      · have e3 : (j + 1 == i) = false := by simp; omega
        simp [e3]
  · cases hs
-- ===== branches; inf: the targets =====
def mjCz (c : ClassFile.Cond) (x : Int32) : Bool := match c with
  | .eq => decide (x = 0)
  | .ne => decide (¬ x = 0)
  | .lt => decide (x < 0)
  | .ge => decide (0 ≤ x)
  | .gt => decide (0 < x)
  | .le => decide (x ≤ 0)
def mjCi (c : ClassFile.Cond) (x y : Int32) : Bool := match c with
  | .eq => decide (x = y)
  | .ne => decide (¬ x = y)
  | .lt => decide (x < y)
  | .ge => decide (y ≤ x)
  | .gt => decide (y < x)
  | .le => decide (x ≤ y)
def mjBr (ins : Instr) (inf : List Nat) (pc : Nat) (st : List Value) : Option (Nat × List Value) := match ins with
  | .ifCond k _ => match st with | .int x :: r => (match inf with | t :: _ => some (bif mjCz k x then t else pc + 3, r) | _ => none) | _ => none
  | .if_icmp k _ => match st with | .int y :: .int x :: r => (match inf with | t :: _ => some (bif mjCi k x y then t else pc + 3, r) | _ => none) | _ => none
  | .goto _ => match inf with | t :: _ => some (t, st) | _ => none
  | .tableswitch _ lo hi _ => match st with | .int x :: r => (if x.toInt < lo ∨ hi < x.toInt then (match inf with | t :: _ => some (t, r) | _ => none) else (match inf[(x.toInt - lo).toNat + 1]? with | some t => some (t, r) | _ => none)) | _ => none
  | .lookupswitch d ps => match st with | .int x :: r => (if 0 ≤ (pc : Int) + Op.lookupswitch.offset ps.toList d x.toInt then some (((pc : Int) + Op.lookupswitch.offset ps.toList d x.toInt).toNat, r) else none) | _ => none
  | _ => none
/-- the targets are the code's own -/
def mjOkB (ins : Instr) (len : Nat) (inf : List Nat) (pc : Nat) : Bool := match ins with
  | .ifCond _ off => len == 3 && (match inf with | t :: _ => decide ((pc : Int) + off = (t : Int)) | _ => false)
  | .if_icmp _ off => len == 3 && (match inf with | t :: _ => decide ((pc : Int) + off = (t : Int)) | _ => false)
  | .goto off => len == 3 && (match inf with | t :: _ => decide ((pc : Int) + off = (t : Int)) | _ => false)
  | .tableswitch d _ _ offs => (match inf with | t :: ts => decide ((pc : Int) + d = (t : Int)) && decide (offs.toList.map (fun o => (pc : Int) + o) = ts.map (fun (t : Nat) => (t : Int))) | _ => false)
  | .lookupswitch _ ps => (ps.toList.zip (ps.toList.drop 1)).all (fun (a, next) => a.1 < next.1)
  | _ => true
section MjA
variable {p : Program} {l : Launch} {e : Env} {R : Room} {s : State} {m : MethodId} {args : Array Value} {below : List Frame} {meth : Method} {c : Code} {H : Heap} {locs : List Loc} {cells slots : Nat} {Q : State → Prop}
variable {cc : ByteArray} {pc : Nat} {lm : Array Slot} {B : Nat} {xa : Nat → Option Nat}
set_option maxHeartbeats 4000000 in
theorem mj_simA (hx : p.tables.exec = Jvm.exec) (hb : c.code = cc) {ins : Instr} {st st' : List Value} (h : mjA ins st = some st') (hd : decode cc pc = .ok (ins, 1))
    (k : W p l e R s m args below meth c H locs cells slots Q (F0 m (pc + 1) lm (st'.map (mjTr B xa)))) : W p l e R s m args below meth c H locs cells slots Q (F0 m pc lm (st.map (mjTr B xa))) := by
  unfold mjA at h
  split at h
  · cases h; exact lv_iconst hx hb hd rfl k
  · cases h; exact lv_lconst hx hb hd rfl k
  · split at h
    · cases h; exact lv_iadd hx hb hd k
    · cases h
  · split at h
    · cases h; exact lv_isub hx hb hd k
    · cases h
  · split at h
    · cases h; exact lv_imul hx hb hd k
    · cases h
  · split at h
    · split at h
      · cases h
      · rename_i hy; cases h; exact lv_idiv hx hb hd hy k
    · cases h
  · split at h
    · split at h
      · cases h
      · rename_i hy; cases h; exact lv_irem hx hb hd hy k
    · cases h
  · split at h
    · cases h; exact lv_iand hx hb hd k
    · cases h
  · split at h
    · cases h; exact lv_ior hx hb hd k
    · cases h
  · split at h
    · cases h; exact lv_ixor hx hb hd k
    · cases h
  · split at h
    · cases h; exact lv_ishl hx hb hd k
    · cases h
  · split at h
    · cases h; exact lv_ishr hx hb hd k
    · cases h
  · split at h
    · cases h; exact lv_iushr hx hb hd rfl k
    · cases h
  · split at h
    · cases h; exact lv_ladd hx hb hd k
    · cases h
  · split at h
    · cases h; exact lv_lmul hx hb hd k
    · cases h
  · split at h
    · cases h; exact lv_lor hx hb hd k
    · cases h
  · split at h
    · cases h; exact lv_lshl hx hb hd rfl k
    · cases h
  · split at h
    · cases h; exact W.lcmp hx hb hd k
    · cases h
  · split at h
    · cases h; exact lv_i2l hx hb hd rfl k
    · cases h
  · split at h
    · cases h; exact lv_i2b hx hb hd rfl k
    · cases h
  · split at h
    · cases h; exact lv_i2c hx hb hd rfl k
    · cases h
  · split at h
    · split at h
      · rename_i hv; cases h; exact lv_dup hx hb hd ((mjTr_cat B xa _).trans hv) k
      · cases h
    · cases h
  · split at h
    · split at h
      · rename_i hv; cases h; exact lv_pop hx hb hd ((mjTr_cat B xa _).trans hv) k
      · cases h
    · cases h
  · split at h
    · split at h
      · rename_i hv; cases h; exact lv_dup2_11 hx hb hd ((mjTr_cat B xa _).trans hv.1) ((mjTr_cat B xa _).trans hv.2) k
      · cases h
    · cases h
  · cases h
theorem mj_simLd (hxa : ∀ k, k ≠ 4 → ∃ a, xa k = some a) (hx : p.tables.exec = Jvm.exec) (hb : c.code = cc) {ins : Instr} {len nL : Nat} {ls : MjL} {v : Value} {st : List Value} (h : mjLd ins ls = some (v, len)) (hl : mjLr B xa nL ls lm) (hd : decode cc pc = .ok (ins, len))
    (k : W p l e R s m args below meth c H locs cells slots Q (F0 m (pc + len) lm ((v :: st).map (mjTr B xa)))) : W p l e R s m args below meth c H locs cells slots Q (F0 m pc lm (st.map (mjTr B xa))) := by
  unfold mjLd at h
  split at h
  · split at h
    · rename_i hq; cases h; exact lv_iload_n hx hb hd rfl (hl.2.2.2 _ _ hq) k
    · cases h
  · split at h
    · rename_i hq; cases h; exact lv_iload hx hb hd (hl.2.2.2 _ _ hq) k
    · cases h
  · split at h
    · rename_i hq; cases h; exact lv_lload_n hx hb hd rfl (hl.2.2.2 _ _ hq) k
    · cases h
  · split at h
    · rename_i hq; cases h; exact lv_lload hx hb hd (hl.2.2.2 _ _ hq) k
    · cases h
  · split at h
    · rename_i hq; cases h; exact lv_aload_n hx hb hd rfl (hl.2.2.2 _ _ hq) k
    · rename_i x hq
      split at h
      · cases h
      · rename_i h4
        cases h
        obtain ⟨a, ha⟩ := hxa x h4
        have e1 : ∀ z, mjTr B xa (.retAddr x) = z → z = .ref a := fun z hz => by rw [← hz]; show va_rf (xa x) = _; rw [ha]; rfl
        have hq2 := hl.2.2.2 _ _ hq
        rw [e1 _ rfl] at hq2
        simp only [List.map_cons] at k
        rw [e1 _ rfl] at k
        exact lv_aload_n hx hb hd rfl hq2 k
    · cases h
  · split at h
    · rename_i hq; cases h; exact lv_aload hx hb hd (hl.2.2.2 _ _ hq) k
    · rename_i x hq
      split at h
      · cases h
      · rename_i h4
        cases h
        obtain ⟨a, ha⟩ := hxa x h4
        have e1 : ∀ z, mjTr B xa (.retAddr x) = z → z = .ref a := fun z hz => by rw [← hz]; show va_rf (xa x) = _; rw [ha]; rfl
        have hq2 := hl.2.2.2 _ _ hq
        rw [e1 _ rfl] at hq2
        simp only [List.map_cons] at k
        rw [e1 _ rfl] at k
        exact lv_aload hx hb hd hq2 k
    · cases h
  · cases h
theorem mjS1_lt {ls ls1 : MjL} {i : Nat} {v : Value} (h : mjS1 ls i v = some ls1) : i < ls.length := by
  unfold mjS1 at h
  split at h
  · rename_i hc; exact hc.1
  · cases h
theorem mjS2_lt {ls ls1 : MjL} {i : Nat} {v : Value} (h : mjS2 ls i v = some ls1) : i + 1 < ls.length := by
  unfold mjS2 at h
  split at h
  · rename_i hc; exact hc.1
  · cases h
theorem mj_simSo (hxa : ∀ k, k ≠ 4 → ∃ a, xa k = some a) (hx : p.tables.exec = Jvm.exec) (hb : c.code = cc) {ins : Instr} {len nL : Nat} {ls ls1 : MjL} {st st1 : List Value} (h : mjSo ins ls st = some (ls1, st1, len)) (hl : mjLr B xa nL ls lm) (hd : decode cc pc = .ok (ins, len))
    (k : ∀ lm1, mjLr B xa nL ls1 lm1 → W p l e R s m args below meth c H locs cells slots Q (F0 m (pc + len) lm1 (st1.map (mjTr B xa)))) : W p l e R s m args below meth c H locs cells slots Q (F0 m pc lm (st.map (mjTr B xa))) := by
  unfold mjSo at h
  split at h
  · split at h
    · obtain ⟨q, hq, e⟩ := Option.map_eq_some_iff.mp h
      cases e
      exact lv_istore_n hx hb hd rfl hl.lv (by rw [← hl.2.1]; exact mjS1_lt hq) rfl (fun lm1 h1 => k lm1 (hl.s1 hq h1))
    · cases h
  · split at h
    · obtain ⟨q, hq, e⟩ := Option.map_eq_some_iff.mp h
      cases e
      exact lv_istore hx hb hd hl.lv (by rw [← hl.2.1]; exact mjS1_lt hq) rfl (fun lm1 h1 => k lm1 (hl.s1 hq h1))
    · cases h
  · split at h
    · obtain ⟨q, hq, e⟩ := Option.map_eq_some_iff.mp h
      cases e
      exact lv_astore_n hx hb hd rfl hl.lv (by rw [← hl.2.1]; exact mjS1_lt hq) rfl (fun lm1 h1 => k lm1 (hl.s1 hq h1))
    · rename_i x r
      split at h
      · cases h
      · rename_i h4
        obtain ⟨q, hq, e⟩ := Option.map_eq_some_iff.mp h
        cases e
        obtain ⟨a, ha⟩ := hxa x h4
        have e1 : mjTr B xa (.retAddr x) = .ref a := by show va_rf (xa x) = _; rw [ha]; rfl
        rw [List.map_cons, e1]
        exact lv_astore_n hx hb hd rfl hl.lv (by rw [← hl.2.1]; exact mjS1_lt hq) rfl (fun lm1 h1 => k lm1 (hl.s1 hq (by rw [e1]; exact h1)))
    · cases h
  · split at h
    · obtain ⟨q, hq, e⟩ := Option.map_eq_some_iff.mp h
      cases e
      exact lv_astore hx hb hd hl.lv (by rw [← hl.2.1]; exact mjS1_lt hq) rfl (fun lm1 h1 => k lm1 (hl.s1 hq h1))
    · rename_i x r
      split at h
      · cases h
      · rename_i h4
        obtain ⟨q, hq, e⟩ := Option.map_eq_some_iff.mp h
        cases e
        obtain ⟨a, ha⟩ := hxa x h4
        have e1 : mjTr B xa (.retAddr x) = .ref a := by show va_rf (xa x) = _; rw [ha]; rfl
        rw [List.map_cons, e1]
        exact lv_astore hx hb hd hl.lv (by rw [← hl.2.1]; exact mjS1_lt hq) rfl (fun lm1 h1 => k lm1 (hl.s1 hq (by rw [e1]; exact h1)))
    · cases h
  · split at h
    · obtain ⟨q, hq, e⟩ := Option.map_eq_some_iff.mp h
      cases e
      exact lv_lstore_n hx hb hd rfl hl.lv (by rw [← hl.2.1]; exact mjS2_lt hq) rfl (fun lm1 h1 => k lm1 (hl.s2 hq h1))
    · cases h
  · split at h
    · rename_i x hx1
      obtain ⟨q, hq, e⟩ := Option.map_eq_some_iff.mp h
      cases e
      obtain ⟨j, hj⟩ := List.getElem?_of_mem (mjLv_mem (B := B) (xa := xa) (q := (_, Value.int x)) |>.mpr ⟨_, hx1, rfl⟩)
      exact lv_iinc hx hb hd hl.lv hj rfl (by rw [← hl.2.1]; exact mjS1_lt hq) rfl (fun lm1 h1 => k lm1 (hl.s1 hq h1))
    · cases h
  · cases h
set_option maxHeartbeats 4000000 in
theorem mj_simB (hx : p.tables.exec = Jvm.exec) (hb : c.code = cc) {ins : Instr} {len pc1 : Nat} {inf : List Nat} {st st1 : List Value} (h : mjBr ins inf pc st = some (pc1, st1)) (ho : mjOkB ins len inf pc = true) (hd : decode cc pc = .ok (ins, len))
    (k : W p l e R s m args below meth c H locs cells slots Q (F0 m pc1 lm (st1.map (mjTr B xa)))) : W p l e R s m args below meth c H locs cells slots Q (F0 m pc lm (st.map (mjTr B xa))) := by
  unfold mjBr at h
  split at h
  · rename_i kc off
    split at h
    · rename_i x r
      split at h
      · rename_i t ts
        cases h
        simp only [mjOkB, Bool.and_eq_true, beq_iff_eq, decide_eq_true_eq] at ho
        obtain ⟨hlen, ht⟩ := ho
        subst hlen
        cases kc with
        | eq => refine lv_if_eq hx hb hd ht (fun q => ?_) (fun q => ?_) <;> (simp only [mjCz, q, not_true, not_false_eq_true, decide_true, decide_false, cond_true, cond_false] at k; exact k)
        | ne => refine lv_if_ne hx hb hd ht (fun q => ?_) (fun q => ?_) <;> (simp only [mjCz, q, not_true, not_false_eq_true, decide_true, decide_false, cond_true, cond_false] at k; exact k)
        | lt => refine lv_if_lt hx hb hd ht (fun q => ?_) (fun q => ?_) <;> (simp only [mjCz, q, decide_true, decide_false, cond_true, cond_false] at k; exact k)
        | ge => refine lv_if_ge hx hb hd ht (fun q => ?_) (fun q => ?_) <;> (simp only [mjCz, q, decide_true, decide_false, cond_true, cond_false] at k; exact k)
        | gt => refine lv_if_gt hx hb hd ht (fun q => ?_) (fun q => ?_) <;> (simp only [mjCz, q, decide_true, decide_false, cond_true, cond_false] at k; exact k)
        | le => refine lv_if_le hx hb hd ht (fun q => ?_) (fun q => ?_) <;> (simp only [mjCz, q, decide_true, decide_false, cond_true, cond_false] at k; exact k)
      · cases h
    · cases h
  · rename_i kc off
    split at h
    · rename_i y x r
      split at h
      · rename_i t ts
        cases h
        simp only [mjOkB, Bool.and_eq_true, beq_iff_eq, decide_eq_true_eq] at ho
        obtain ⟨hlen, ht⟩ := ho
        subst hlen
        cases kc with
        | eq => refine lv_icmp_eq hx hb hd ht (fun q => ?_) (fun q => ?_) <;> (simp only [mjCi, q, not_true, not_false_eq_true, decide_true, decide_false, cond_true, cond_false] at k; exact k)
        | ne => refine lv_icmp_ne hx hb hd ht (fun q => ?_) (fun q => ?_) <;> (simp only [mjCi, q, not_true, not_false_eq_true, decide_true, decide_false, cond_true, cond_false] at k; exact k)
        | lt => refine lv_icmp_lt hx hb hd ht (fun q => ?_) (fun q => ?_) <;> (simp only [mjCi, q, decide_true, decide_false, cond_true, cond_false] at k; exact k)
        | ge => refine lv_icmp_ge hx hb hd ht (fun q => ?_) (fun q => ?_) <;> (simp only [mjCi, q, decide_true, decide_false, cond_true, cond_false] at k; exact k)
        | gt => refine lv_icmp_gt hx hb hd ht (fun q => ?_) (fun q => ?_) <;> (simp only [mjCi, q, decide_true, decide_false, cond_true, cond_false] at k; exact k)
        | le => refine lv_icmp_le hx hb hd ht (fun q => ?_) (fun q => ?_) <;> (simp only [mjCi, q, decide_true, decide_false, cond_true, cond_false] at k; exact k)
      · cases h
    · cases h
  · split at h
    · cases h
      simp only [mjOkB, Bool.and_eq_true, beq_iff_eq, decide_eq_true_eq] at ho
      obtain ⟨hlen, ht⟩ := ho
      subst hlen
      exact lv_goto hx hb hd ht k
    · cases h
  · rename_i d lo hi offs
    split at h
    · rename_i x r
      split at h
      · rename_i hout
        split at h
        · cases h
          simp only [mjOkB, Bool.and_eq_true, decide_eq_true_eq] at ho
          exact lv_tableOut hx hb hd hout ho.1 k
        · cases h
      · rename_i hout
        split at h
        · rename_i t ht
          cases h
          unfold mjOkB at ho
          simp only at ho
          split at ho
          · rename_i t0 ts
            simp only [Bool.and_eq_true, decide_eq_true_eq] at ho
            rw [List.getElem?_cons_succ] at ht
            have e2 : (offs.toList.map (fun o => (pc : Int) + o))[(x.toInt - lo).toNat]? = some (pc1 : Int) := by
              rw [ho.2, List.getElem?_map, ht]; rfl
            rw [List.getElem?_map] at e2
            obtain ⟨off, e3, e4⟩ := Option.map_eq_some_iff.mp e2
            exact lv_tableIn hx hb hd (fun q => hout (Or.inl q)) (fun q => hout (Or.inr q)) (off := off) (by rw [← Array.getElem?_toList]; exact e3) e4 k
          · cases ho
        · cases h
    · cases h
  · rename_i d ps
    split at h
    · rename_i x r
      split at h
      · rename_i h0
        cases h
        exact lv_lookup hx hb hd ho rfl (by omega) k
      · cases h
    · cases h
  · cases h
end MjA
end
section
/-! ===== the small machine's heap ===== -/
def mjTyp (ci : Nat) : Nat → FieldType := match ci with
  | 0 => tyX0
  | 1 => tyX1
  | 2 => tyX2
  | 3 => tyX3
  | 4 => tyX4
  | 5 => tyX5
  | 6 => tyX6
  | 7 => tyX7
  | 8 => tyX8
  | 9 => tyX9
  | _ => tyX10
def mjAll : List Cond := lw_tbl.filter goodWord
def mjNest : List Cond := lw_tbl.filter (fun w => match w with | .methodLinkNest _ _ _ _ => true | _ => false)
def mjTys (cT : Nat → ClassId) : List (ClassId × FieldType) := [(cT 100, mjAT 100), (cT 101, mjAT 101), (cT 102, mjAT 102), (cT 103, mjAT 103), (cT 104, mjAT 104)]
def mjAt (D : va_G) (cT : Nat → ClassId) (B : Nat) (xa : Nat → Option Nat) (a : Nat) (q : Nat × List Value) (H : Heap) : Prop :=
  if q.1 < 100 then ∃ r : vw_C, vwCl[q.1]? = some r ∧ q.2.length = r.2.2 ∧ t_OB a (D.1 q.1) r.2.2 (D.2 q.1) H (vp_V (q.2.map (mjTr B xa)))
  else H[a]? = some (arrV (cT q.1) q.2.length (fun j => mjTr B xa (q.2.getD j .null)))
def mjP (D : va_G) (cT : Nat → ClassId) (B : Nat) (xa : Nat → Option Nat) (H0 : Heap) (w : MjW) (H : Heap) : Prop :=
  H.size = B + w.length ∧ (∀ q : Nat, q < B → H[q]? = H0[q]?) ∧ ∀ (i : Nat) (q : Nat × List Value), w[i]? = some q → mjAt D cT B xa (B + i) q H
theorem mjAt.kept {D : va_G} {cT : Nat → ClassId} {B : Nat} {xa : Nat → Option Nat} {a : Nat} {q : Nat × List Value} {H H1 : Heap} (h : mjAt D cT B xa a q H) (e : H1[a]? = H[a]?) : mjAt D cT B xa a q H1 := by
  unfold mjAt at h ⊢
  split at h
  · rename_i hq
    obtain ⟨r, h1, h2, h3⟩ := h
    rw [if_pos hq]
    exact ⟨r, h1, h2, h3.kept e⟩
  · rename_i hq
    rw [if_neg hq, e]
    exact h
theorem mjP.set {D : va_G} {cT : Nat → ClassId} {B : Nat} {xa : Nat → Option Nat} {H0 H H1 : Heap} {w : MjW} {a : Nat} {q q1 : Nat × List Value} (h : mjP D cT B xa H0 w H) (ha : w[a]? = some q) (h1 : mjAt D cT B xa (B + a) q1 H1) (z : H1.size = H.size) (o : ∀ x, x ≠ B + a → H1[x]? = H[x]?) : mjP D cT B xa H0 (w.set a q1) H1 := by
  refine ⟨by rw [z, List.length_set]; exact h.1, fun x hx => by rw [o x (by omega)]; exact h.2.1 x hx, fun i c hi => ?_⟩
  rw [List.getElem?_set] at hi
  by_cases e : a = i
  · subst e
    rw [if_pos rfl, if_pos (List.getElem?_eq_some_iff.mp ha).1] at hi
    cases hi
    exact h1
  · rw [if_neg e] at hi
    exact (h.2.2 i c hi).kept (o _ (by omega))
theorem mjP.push {D : va_G} {cT : Nat → ClassId} {B : Nat} {xa : Nat → Option Nat} {H0 H H1 : Heap} {w : MjW} {q1 : Nat × List Value} (h : mjP D cT B xa H0 w H) (h1 : mjAt D cT B xa (B + w.length) q1 H1) (z : H1.size = H.size + 1) (o : ∀ x, x < H.size → H1[x]? = H[x]?) : mjP D cT B xa H0 (w ++ [q1]) H1 := by
  refine ⟨by rw [z, h.1, List.length_append]; rfl, fun x hx => by rw [o x (by rw [h.1]; omega)]; exact h.2.1 x hx, fun i c hi => ?_⟩
  by_cases e : i < w.length
  · rw [List.getElem?_append_left e] at hi
    exact (h.2.2 i c hi).kept (o _ (by rw [h.1]; omega))
  · rw [List.getElem?_append_right (by omega)] at hi
    have hz : i - w.length < 1 := (List.getElem?_eq_some_iff.mp hi).1
    have e2 : i = w.length := by omega
    subst e2
    rw [Nat.sub_self] at hi
    cases hi
    exact h1
theorem mjP.arr {D : va_G} {cT : Nat → ClassId} {B : Nat} {xa : Nat → Option Nat} {H0 H : Heap} {w : MjW} {a k : Nat} {vs : List Value} (h : mjP D cT B xa H0 w H) (ha : w[a]? = some (k, vs)) (hk : ¬ k < 100) : H[B + a]? = some (arrV (cT k) vs.length (fun j => mjTr B xa (vs.getD j .null))) := by
  have h1 := h.2.2 a _ ha
  unfold mjAt at h1
  rw [if_neg hk] at h1
  exact h1
theorem mjAt.arr {D : va_G} {cT : Nat → ClassId} {B : Nat} {xa : Nat → Option Nat} {H1 : Heap} {a k i : Nat} {vs : List Value} {v v' : Value} (hk : ¬ k < 100) (hi : i < vs.length) (hv : mjTr B xa v = v') (e : H1[a]? = some ((arrV (cT k) vs.length (fun j => mjTr B xa (vs.getD j .null))).setSlot i v')) : mjAt D cT B xa a (k, vs.set i v) H1 := by
  unfold mjAt
  rw [if_neg hk, e, arrV_store]
  show some (arrV (cT k) vs.length _) = some (arrV (cT k) (vs.set i v).length _)
  rw [List.length_set]
  congr 2
  funext j
  by_cases hj : j = i
  · subst hj
    simp [updV, hi, hv]
  · simp [updV, hj, List.getD_eq_getElem?_getD, List.getElem?_set_ne (Ne.symm hj)]
/-- the classes, and the arrays' classes, as the tables have them -/
def mjK (D : va_G) (cT : Nat → ClassId) (U : State) : Prop := va_K D vwCl (mjTys cT) U ∧ (∀ w ∈ mjNest, va_Nw w U) ∧ va_AO "AvalancheInn$State" U
theorem mjK.arr {D : va_G} {cT : Nat → ClassId} {U : State} (h : mjK D cT U) {k : Nat} (hk : k = 100 ∨ k = 101 ∨ k = 102 ∨ k = 103 ∨ k = 104) : ArrOfT U (cT k) (mjAT k) ∧ va_RA U (cT k) (mjAT k) := by
  rcases hk with rfl | rfl | rfl | rfl | rfl
  · exact h.1.2 0 _ rfl
  · exact h.1.2 1 _ rfl
  · exact h.1.2 2 _ rfl
  · exact h.1.2 3 _ rfl
  · exact h.1.2 4 _ rfl
theorem mjNest_is {w : Cond} (h : w ∈ mjNest) : ∃ a i x o, w = .methodLinkNest a i x o := by
  unfold mjNest at h
  have h2 := (List.mem_filter.mp h).2
  cases w <;> first | exact ⟨_, _, _, _, rfl⟩ | cases h2
theorem mjK.warm {D : va_G} {cT : Nat → ClassId} {s U : State} (hW : s.WarmedH U.vm) (h : mjK D cT s) : mjK D cT U := by
  refine ⟨h.1.moved hW.alike, fun w hw => ?_, h.2.2.moved hW.alike⟩
  obtain ⟨a, i, x, o, rfl⟩ := mjNest_is hw
  exact va_Nw.warmM hW (h.2.1 _ hw)
theorem mjK.same {D : va_G} {cT : Nat → ClassId} {s U : State} (hv : s.vm = U.vm) (h : mjK D cT s) : mjK D cT U := by
  have ha : s.vm.Alike U.vm := by rw [hv]; exact Vm.Alike.refl U.vm
  refine ⟨h.1.moved ha, fun w hw => ?_, h.2.2.moved ha⟩
  obtain ⟨a, i, x, o, rfl⟩ := mjNest_is hw
  exact va_Nw.same rfl hv (h.2.1 _ hw)
-- ===== the instructions on the heap; inf: the class's number and the field's, or the array's kind =====
def mjRd (vs : List Value) (i : Int32) : Option Value := if i < 0 then none else vs[i.toNatClampNeg]?
def mjWr (vs : List Value) (i : Int32) (v : Value) : Option (List Value) := if i < 0 then none else if i.toNatClampNeg < vs.length then some (vs.set i.toNatClampNeg v) else none
def mjFit (ty : FieldType) (v : Value) : Bool := match v with
  | .retAddr _ => false
  | .ref _ => (match ty with | .object _ => true | .array _ => true | _ => false)
  | .null => (match ty with | .object _ => true | .array _ => true | _ => false)
  | v => decide (narrow ty v = v) && fits ty v
def mjNF (ci : Nat) : Nat := match vwCl[ci]? with | some r => r.2.2 | none => 0
def mjDef (ci : Nat) : List Value := (List.range (mjNF ci)).map (fun k => defaultValue (mjTyp ci k))
def mjH (ins : Instr) (inf : List Nat) (st : List Value) (w : MjW) : Option (List Value × MjW × Nat) := match ins with
  | .getfield _ => match st with
    | .ref a :: r => (match inf with
      | ci :: k :: _ => (match w[a]? with
        | some (cj, fs) => if cj = ci then (match fs[k]? with | some v => some (v :: r, w, 3) | none => none) else none
        | none => none)
      | _ => none)
    | _ => none
  | .putfield _ => match st with
    | v :: .ref a :: r => (match inf with
      | ci :: k :: _ => (match w[a]? with
        | some (cj, fs) => if cj = ci ∧ k < fs.length ∧ mjFit (mjTyp ci k) v = true then some (r, w.set a (cj, fs.set k v), 3) else none
        | none => none)
      | _ => none)
    | _ => none
  | .iaload => match st with
    | .int i :: .ref a :: r => (match w[a]? with | some (k, vs) => if k = 100 then (match mjRd vs i with | some v => some (v :: r, w, 1) | none => none) else none | none => none)
    | _ => none
  | .baload => match st with
    | .int i :: .ref a :: r => (match w[a]? with | some (k, vs) => if k = 101 ∨ k = 102 then (match mjRd vs i with | some v => some (v :: r, w, 1) | none => none) else none | none => none)
    | _ => none
  | .laload => match st with
    | .int i :: .ref a :: r => (match w[a]? with | some (k, vs) => if k = 103 then (match mjRd vs i with | some v => some (v :: r, w, 1) | none => none) else none | none => none)
    | _ => none
  | .aaload => match st with
    | .int i :: .ref a :: r => (match w[a]? with | some (k, vs) => if k = 104 then (match mjRd vs i with | some v => some (v :: r, w, 1) | none => none) else none | none => none)
    | _ => none
  | .iastore => match st with
    | .int x :: .int i :: .ref a :: r => (match w[a]? with | some (k, vs) => if k = 100 then (match mjWr vs i (.int x) with | some vs1 => some (r, w.set a (100, vs1), 1) | none => none) else none | none => none)
    | _ => none
  | .bastore => match st with
    | .int x :: .int i :: .ref a :: r => (match w[a]? with
      | some (k, vs) => if k = 101 then (match mjWr vs i (narrow .byte (.int x)) with | some vs1 => some (r, w.set a (101, vs1), 1) | none => none)
        else if k = 102 then (match mjWr vs i (narrow .boolean (.int x)) with | some vs1 => some (r, w.set a (102, vs1), 1) | none => none) else none
      | none => none)
    | _ => none
  | .lastore => match st with
    | .long x :: .int i :: .ref a :: r => (match w[a]? with | some (k, vs) => if k = 103 then (match mjWr vs i (.long x) with | some vs1 => some (r, w.set a (103, vs1), 1) | none => none) else none | none => none)
    | _ => none
  | .aastore => match st with
    | .ref x :: .int i :: .ref a :: r => (match w[a]?, w[x]? with | some (k, vs), some (k2, _) => if k = 104 ∧ k2 = 8 then (match mjWr vs i (.ref x) with | some vs1 => some (r, w.set a (104, vs1), 1) | none => none) else none | _, _ => none)
    | _ => none
  | .arraylength => match st with
    | .ref a :: r => (match w[a]? with | some (k, vs) => if 100 ≤ k ∧ k ≤ 104 then some (.int (Int32.ofNat vs.length) :: r, w, 1) else none | none => none)
    | _ => none
  | .new _ => match inf with
    | ci :: _ => some (.ref w.length :: st, w ++ [(ci, mjDef ci)], 3)
    | _ => none
  | .newarray _ => match st with
    | .int n :: r => (match inf with
      | k :: _ => if ¬ n < 0 ∧ n.toNatClampNeg ≤ 100000 then some (.ref w.length :: r, w ++ [(k, List.replicate n.toNatClampNeg (defaultValue (mjAT k)))], 2) else none
      | _ => none)
    | _ => none
  | .anewarray _ => match st with
    | .int n :: r => if ¬ n < 0 ∧ n.toNatClampNeg ≤ 100000 then some (.ref w.length :: r, w ++ [(104, List.replicate n.toNatClampNeg .null)], 3) else none
    | _ => none
  | _ => none
/-- a word of the tables, by its place -/
def mjHas (pl : Nat) (w : Cond) : Bool := decide (lw_tbl[pl]? = some w) && goodWord w
theorem mjHas_in {pl : Nat} {w : Cond} (h : mjHas pl w = true) : w ∈ mjAll := by
  unfold mjHas at h
  simp only [Bool.and_eq_true, decide_eq_true_eq] at h
  exact List.mem_filter.mpr ⟨List.mem_of_getElem? h.1, h.2⟩
def mjOkH (own : String) (isInit : Bool) (ins : Instr) (len : Nat) (inf : List Nat) : Bool := match ins with
  | .getfield idx => (match inf with
    | ci :: k :: pl :: _ => (match vwCl[ci]? with | some (_, T, N) => decide (ci < 100 ∧ k < N) && mjHas pl (.fieldLink own idx (T k).1 (T k).2.1 (T k).2.2.1) | none => false)
    | _ => false)
  | .putfield idx => (match inf with
    | ci :: k :: pl :: _ => (match vwCl[ci]? with | some (_, T, N) => decide (ci < 100 ∧ k < N) && mjHas pl (.fieldLink own idx (T k).1 (T k).2.1 (T k).2.2.1) && (!(T k).2.2.2 || (isInit && decide ((T k).1 = own))) | none => false)
    | _ => false)
  | .new idx => (match inf with
    | ci :: p1 :: p2 :: p3 :: _ => (match vwCl[ci]? with | some (C, _, N) => decide (ci < 100) && mjHas p1 (.classLink own idx C) && mjHas p2 (.instantiable C N) && mjHas p3 (.initialized C) | none => false)
    | _ => false)
  | .newarray t => (match inf with
    | k :: p1 :: _ => decide (k = 100 ∨ k = 101 ∨ k = 102 ∨ k = 103) && decide (newarray.typeOf t = mjAT k) && mjHas p1 (.arrayClass (mjAT k))
    | _ => false)
  | .anewarray idx => (match inf with
    | p1 :: _ => mjHas p1 (.classLink own idx "AvalancheInn$State")
    | _ => false)
  | _ => true
theorem mjCls : ∀ (ci : Nat) (C : String) (T : u_T) (N : Nat), vwCl[ci]? = some (C, T, N) → (∀ w ∈ u_ws C T N, w ∈ mjAll) ∧ (∀ k, k < N → parseFieldDescriptor (T k).2.2.1 = some (mjTyp ci k)) ∧ (∀ a, a < N → ∀ b, b < N → a ≠ b → (T a).2.1 ≠ (T b).2.1) ∧ mjNF ci = N := by
  intro ci C T N h
  match ci, h with
  | 0, h => cases h; exact ⟨by decide +kernel, tyX0_ok, nmX0, rfl⟩
  | 1, h => cases h; exact ⟨by decide +kernel, tyX1_ok, nmX1, rfl⟩
  | 2, h => cases h; exact ⟨by decide +kernel, tyX2_ok, nmX2, rfl⟩
  | 3, h => cases h; exact ⟨by decide +kernel, tyX3_ok, nmX3, rfl⟩
  | 4, h => cases h; exact ⟨by decide +kernel, tyX4_ok, nmX4, rfl⟩
  | 5, h => cases h; exact ⟨by decide +kernel, tyX5_ok, nmX5, rfl⟩
  | 6, h => cases h; exact ⟨by decide +kernel, tyX6_ok, nmX6, rfl⟩
  | 7, h => cases h; exact ⟨by decide +kernel, tyX7_ok, nmX7, rfl⟩
  | 8, h => cases h; exact ⟨by decide +kernel, tyX8_ok, nmX8, rfl⟩
  | 9, h => cases h; exact ⟨by decide +kernel, tyX9_ok, nmX9, rfl⟩
  | 10, h => cases h; exact ⟨by decide +kernel, tyX10_ok, nmX10, rfl⟩
  | k + 11, h => cases h
end
section
section MjH
variable {p : Program} {l : Launch} {e : Env} {R : Room} {s : State} {m : MethodId} {args : Array Value} {below : List Frame} {meth : Method} {c : Code} {H H0 : Heap} {locs : List Loc} {cells slots : Nat} {Q : State → Prop}
variable {cc : ByteArray} {pc : Nat} {lm : Array Slot} {B : Nat} {xa : Nat → Option Nat} {D : va_G} {cT : Nat → ClassId} {w : MjW} {rest : List Value}
theorem mjP.obj {a ci : Nat} {fs : List Value} (h : mjP D cT B xa H0 w H) (ha : w[a]? = some (ci, fs)) (hk : ci < 100) : ∃ r : vw_C, vwCl[ci]? = some r ∧ fs.length = r.2.2 ∧ t_OB (B + a) (D.1 ci) r.2.2 (D.2 ci) H (vp_V (fs.map (mjTr B xa))) := by
  have h1 := h.2.2 a _ ha
  unfold mjAt at h1
  rw [if_pos hk] at h1
  exact h1
theorem mjP.one {a ci : Nat} {fs : List Value} (h : mjP D cT B xa H0 w H) (ha : w[a]? = some (ci, fs)) (hk : ci < 100) : va_P D vwCl [(B + a, .inr (ci, fs.map (mjTr B xa)))] H := by
  obtain ⟨r, h1, -, h2⟩ := h.obj ha hk
  intro k q hq
  have hz : k < 1 := (List.getElem?_eq_some_iff.mp hq).1
  rw [show k = 0 by omega] at hq
  cases hq
  exact ⟨r, h1, h2⟩
theorem mjFit_ok {ty : FieldType} {v : Value} (h : mjFit ty v = true) : narrow ty (mjTr B xa v) = mjTr B xa v ∧ fits ty (mjTr B xa v) = true := by
  cases v with
  | retAddr k => cases h
  | ref a => cases ty <;> first | exact ⟨rfl, rfl⟩ | cases h
  | null => cases ty <;> first | exact ⟨rfl, rfl⟩ | cases h
  | int x => simp only [mjFit, Bool.and_eq_true, decide_eq_true_eq] at h; exact h
  | long x => simp only [mjFit, Bool.and_eq_true, decide_eq_true_eq] at h; exact h
  | float x => simp only [mjFit, Bool.and_eq_true, decide_eq_true_eq] at h; exact h
  | double x => simp only [mjFit, Bool.and_eq_true, decide_eq_true_eq] at h; exact h
theorem mj_get (hx : p.tables.exec = Jvm.exec) (hb : c.code = cc) {own C : String} {T : u_T} {N ci k a index : Nat} {fs : List Value} {v : Value} (hts : ∀ w ∈ mjAll, w.before args s = true) (hown : s.vm.findClass own = some m.cls) (hK : mjK D cT s) (hP : mjP D cT B xa H0 w H) (hw : w[a]? = some (ci, fs)) (hci : ci < 100) (hc : vwCl[ci]? = some (C, T, N)) (hk : k < N) (hv : fs[k]? = some v) (hl : Cond.fieldLink own index (T k).1 (T k).2.1 (T k).2.2.1 ∈ mjAll) (hd : decode cc pc = .ok (.getfield index, 3))
    (kk : W p l e R s m args below meth c H locs cells slots Q (F0 m (pc + 3) lm (mjTr B xa v :: rest))) : W p l e R s m args below meth c H locs cells slots Q (F0 m pc lm (.ref (B + a) :: rest)) :=
  va_get (D := D) (ci := ci) (C := C) (T := T) (N := N) (v := mjTr B xa v) hx hb hts (mjCls ci C T N hc).1 hown hK.1 (hP.one hw hci) 0 rfl hc k hk (hts _ hl) (fun _ h9 => h9) (by rw [List.getElem?_map, hv]; rfl) hd kk
theorem mj_setOB {a ci k : Nat} {fs : List Value} {v : Value} {N : Nat} {cell : Cell} {H1 : Heap} (hlen : k < fs.length) (hk : k < N) (q2 : cell.cls = D.1 ci) (q3 : cell.vm = .none) (q4 : ∀ k, k < N → cell.slots[D.2 ci k]? = some (vp_V (fs.map (mjTr B xa)) k)) (hap : ∀ x y, x < N → y < N → x ≠ y → (D.2 ci) x ≠ (D.2 ci) y) (e1 : H1[B + a]? = some (cell.setSlot (D.2 ci k) (mjTr B xa v))) : t_OB (B + a) (D.1 ci) N (D.2 ci) H1 (vp_V ((fs.set k v).map (mjTr B xa))) := by
  rw [List.map_set]
  exact t_OB.to (V := updV (vp_V (fs.map (mjTr B xa))) k (mjTr B xa v)) ⟨_, e1, q2, q3, t_set q4 hap hk _⟩ (fun j _ => vp_updV_set (by rw [List.length_map]; exact hlen) _ j)
set_option maxHeartbeats 1000000 in
theorem mj_put (hx : p.tables.exec = Jvm.exec) (hb : c.code = cc) {own C : String} {T : u_T} {N ci k a index : Nat} {fs : List Value} {v : Value} (hts : ∀ w ∈ mjAll, w.before args s = true) (hown : s.vm.findClass own = some m.cls) (hK : mjK D cT s) (hP : mjP D cT B xa H0 w H) (hw : w[a]? = some (ci, fs)) (hci : ci < 100) (hc : vwCl[ci]? = some (C, T, N)) (hk : k < N) (hlen : k < fs.length) (hfin : (T k).2.2.2 = false ∨ (meth.name = "<init>" ∧ (T k).1 = own)) (hfit : mjFit (mjTyp ci k) v = true) (hl : Cond.fieldLink own index (T k).1 (T k).2.1 (T k).2.2.1 ∈ mjAll) (hd : decode cc pc = .ok (.putfield index, 3))
    (kk : ∀ (H1 : Heap), mjP D cT B xa H0 (w.set a (ci, fs.set k v)) H1 → ∀ locs1 : List Loc, (∀ q ∈ locs1, q ∈ locs ∨ B ≤ q.base) → W p l e R s m args below meth c H1 locs1 cells slots Q (F0 m (pc + 3) lm rest)) : W p l e R s m args below meth c H locs cells slots Q (F0 m pc lm (mjTr B xa v :: .ref (B + a) :: rest)) := by
  obtain ⟨hin, hty, hnm, -⟩ := mjCls ci C T N hc
  have hap := va_apart (own := own) hts hin (mjTyp ci) hty hnm hK.1 hc
  obtain ⟨r, h1, h2, cell, q1, q2, q3, q4⟩ := hP.obj hw hci
  have hr : r = (C, T, N) := Option.some.inj (h1.symm.trans hc)
  subst hr
  obtain ⟨hS, hfc, kC, hkC, hkind⟩ := hK.1.1 ci _ hc
  obtain ⟨cf, kf, fi, f, hi, hsl⟩ := hS k hk
  have hlay := hts _ (hin _ (u_in_lay hk))
  unfold u_lay at hlay
  obtain ⟨hn, hf⟩ := mjFit_ok (B := B) (xa := xa) hfit
  have hst := (u_facts hfc hkC (u_lays hts hin hk) hi).1
  have fin : ∀ (H1 : Heap), H1[B + a]? = some (cell.setSlot (D.2 ci k) (mjTr B xa v)) → H1.size = H.size → (∀ q, q ≠ B + a → H1[q]? = H[q]?) → mjP D cT B xa H0 (w.set a (ci, fs.set k v)) H1 := by
    intro H1 e1 e2 e3
    refine hP.set hw ?_ e2 e3
    unfold mjAt
    rw [if_pos hci]
    exact ⟨_, hc, by rw [List.length_set]; exact h2, mj_setOB hlen hk q2 q3 q4 hap e1⟩
  have lo : ∀ q ∈ locs ++ [(⟨B + a, D.2 ci k⟩ : Loc)], q ∈ locs ∨ B ≤ q.base := by
    intro q hq
    rcases List.mem_append.mp hq with h | h
    · exact Or.inl h
    · rw [List.mem_singleton.mp h]; exact Or.inr (Nat.le_add_right B a)
  by_cases hfb : (T k).2.2.2 = true
  · rw [if_pos hfb] at hlay
    obtain ⟨hin2, hdecl⟩ : meth.name = "<init>" ∧ (T k).1 = own := by
      rcases hfin with h | h
      · rw [h] at hfb; cases hfb
      · exact h
    have hcf : m.cls = cf := by
      obtain ⟨_, _, c', _, _, _, -, -, hf', -, -, -, hown2, -⟩ := Cond.laysFinal_spec hlay
      have e1 : c' = cf := by have := hi.symm.trans hf'; simp at this; exact this.1.symm
      rw [hdecl] at hown2
      rw [← e1]; exact Option.some.inj (hown.symm.trans hown2)
    have h6 := u_fits hfc hkC hkind (Or.inr hlay) hi (hty k hk) hn hf
    refine W.putFinK hx hb hown (hts _ hl) hi hst hcf hin2 (by rw [q2]; exact h6) q1 q3 (by rw [hsl]; exact k2_hasslot (q4 k hk)) rfl rfl hd fun H' e1 e2 e3 => ?_
    rw [hsl] at e1 ⊢
    exact kk H' (fin H' e1 e2 e3) _ lo
  · rw [if_neg hfb] at hlay
    have h6 := u_store hfc hkC hkind hlay hi (hty k hk) hn hf
    refine W.putK hx hb (f := f) ⟨hown, hts _ hl, ⟨_, _, _, hi⟩, hst⟩ (by rw [q2]; exact h6) q1 q3 (by rw [hsl]; exact k2_hasslot (q4 k hk)) rfl rfl hd fun H' e1 e2 e3 => ?_
    rw [hsl] at e1 ⊢
    exact kk H' (fin H' e1 e2 e3) _ lo
theorem mjRd_ok {vs : List Value} {i : Int32} {v : Value} (h : mjRd vs i = some v) : ¬ i < 0 ∧ i.toNatClampNeg < vs.length ∧ vs[i.toNatClampNeg]? = some v := by
  unfold mjRd at h
  split at h
  · cases h
  · rename_i h0
    exact ⟨h0, (List.getElem?_eq_some_iff.mp h).1, h⟩
theorem mjWr_ok {vs vs1 : List Value} {i : Int32} {v : Value} (h : mjWr vs i v = some vs1) : ¬ i < 0 ∧ i.toNatClampNeg < vs.length ∧ vs1 = vs.set i.toNatClampNeg v := by
  unfold mjWr at h
  split at h
  · cases h
  · rename_i h0
    split at h
    · rename_i h1
      cases h
      exact ⟨h0, h1, rfl⟩
    · cases h
theorem mj_arrIn {vs : List Value} {i : Int32} {cA : ClassId} {f : Nat → Value} (h0 : ¬ i < 0) (h1 : i.toNatClampNeg < vs.length) : ¬ (i < 0 ∨ (arrV cA vs.length f).slots.size ≤ i.toNatClampNeg) := by
  rw [arrV_size]
  intro q
  rcases q with q | q
  · exact h0 q
  · omega
theorem mj_arrRd {vs : List Value} {j : Nat} {v : Value} {cA : ClassId} (h : vs[j]? = some v) : (arrV cA vs.length (fun j => mjTr B xa (vs.getD j .null))).slots[j]? = some (mjTr B xa v) := by
  rw [arrV_read _ _ (List.getElem?_eq_some_iff.mp h).1]
  simp [List.getD_eq_getElem?_getD, h]
theorem mj_locs {a j : Nat} : ∀ q ∈ locs ++ [(⟨B + a, j⟩ : Loc)], q ∈ locs ∨ B ≤ q.base := by
  intro q hq
  rcases List.mem_append.mp hq with h | h
  · exact Or.inl h
  · rw [List.mem_singleton.mp h]; exact Or.inr (Nat.le_add_right B a)
set_option maxHeartbeats 4000000 in
theorem mj_simH (hx : p.tables.exec = Jvm.exec) (hb : c.code = cc) {own : String} {isInit : Bool} {ins : Instr} {len len1 : Nat} {inf : List Nat} {st st1 : List Value} {w1 : MjW} (h : mjH ins inf st w = some (st1, w1, len1)) (ho : mjOkH own isInit ins len inf = true) (hin : isInit = true → meth.name = "<init>") (hle : len = len1) (hd : decode cc pc = .ok (ins, len))
    (hts : ∀ w ∈ mjAll, w.before args s = true) (hown : s.vm.findClass own = some m.cls) (hK : mjK D cT s) (hP : mjP D cT B xa H0 w H)
    (hcells : cells + (w1.length - w.length) ≤ R.cells) (hslots : slots + ((w1.map (fun q : Nat × List Value => q.2.length)).sum - (w.map (fun q : Nat × List Value => q.2.length)).sum) ≤ R.slots)
    (kk : ∀ (H1 : Heap), mjP D cT B xa H0 w1 H1 → ∀ locs1 : List Loc, (∀ q ∈ locs1, q ∈ locs ∨ B ≤ q.base) → W p l e R s m args below meth c H1 locs1 (cells + (w1.length - w.length)) (slots + ((w1.map (fun q : Nat × List Value => q.2.length)).sum - (w.map (fun q : Nat × List Value => q.2.length)).sum)) Q (F0 m (pc + len1) lm (st1.map (mjTr B xa)))) : W p l e R s m args below meth c H locs cells slots Q (F0 m pc lm (st.map (mjTr B xa))) := by
  subst hle
  have len0 : ∀ {a : Nat} {q : Nat × List Value} {k : Nat} {vs : List Value}, w[a]? = some (k, vs) → q.2.length = vs.length → ((w.set a q).length - w.length = 0 ∧ ((w.set a q).map (fun q : Nat × List Value => q.2.length)).sum - (w.map (fun q : Nat × List Value => q.2.length)).sum = 0) := by
    intro a q k vs ha hq
    refine ⟨by rw [List.length_set]; omega, ?_⟩
    have e : (w.set a q).map (fun q : Nat × List Value => q.2.length) = w.map (fun q : Nat × List Value => q.2.length) := by
      apply List.ext_getElem?
      intro i
      rw [List.getElem?_map, List.getElem?_map, List.getElem?_set]
      by_cases h9 : a = i
      · subst h9
        rw [if_pos rfl, if_pos (List.getElem?_eq_some_iff.mp ha).1, ha]
        exact congrArg some hq
      · rw [if_neg h9]
    rw [e]; omega
  have all0 : w.length - w.length = 0 ∧ (w.map (fun q : Nat × List Value => q.2.length)).sum - (w.map (fun q : Nat × List Value => q.2.length)).sum = 0 := ⟨by omega, by omega⟩
  unfold mjH at h
  split at h
  · -- getfield
    rename_i idx
    split at h
    · rename_i a r
      split at h
      · rename_i ci k tl
        split at h
        · rename_i cj fs hw
          split at h
          · rename_i e1; subst e1
            split at h
            · rename_i v hv
              cases h
              unfold mjOkH at ho; simp only at ho
              split at ho
              · rename_i ci2 k2 pl tl2 heq
                cases heq
                split at ho
                · rename_i C T N hc
                  simp only [Bool.and_eq_true, decide_eq_true_eq] at ho
                  refine mj_get hx hb hts hown hK hP hw ho.1.1 hc ho.1.2 hv (mjHas_in ho.2) hd ?_
                  have k9 := kk H hP locs (fun q hq => Or.inl hq)
                  rw [all0.1, all0.2] at k9
                  exact k9
                · cases ho
              · cases ho
            · cases h
          · cases h
        · cases h
      · cases h
    · cases h
  · -- putfield
    rename_i idx
    split at h
    · rename_i v a r
      split at h
      · rename_i ci k tl
        split at h
        · rename_i cj fs hw
          split at h
          · rename_i e1
            obtain ⟨e1, e2, e3⟩ := e1
            subst e1
            cases h
            unfold mjOkH at ho; simp only at ho
            split at ho
            · rename_i ci2 k2 pl tl2 heq
              cases heq
              split at ho
              · rename_i C T N hc
                simp only [Bool.and_eq_true, decide_eq_true_eq, Bool.or_eq_true, Bool.not_eq_true'] at ho
                refine mj_put hx hb hts hown hK hP hw ho.1.1.1 hc ho.1.1.2 e2 (ho.2.imp id (fun q => ⟨hin q.1, q.2⟩)) e3 (mjHas_in ho.1.2) hd (fun H1 hP1 locs1 hl1 => ?_)
                have k9 := kk H1 hP1 locs1 hl1
                obtain ⟨z1, z2⟩ := len0 (q := (cj, fs.set k v)) hw (by rw [List.length_set])
                rw [z1, z2] at k9
                exact k9
              · cases ho
            · cases ho
          · cases h
        · cases h
      · cases h
    · cases h
  · -- iaload
    split at h
    · rename_i i a r
      split at h
      · rename_i k vs hw
        split at h
        · rename_i e1; subst e1
          split at h
          · rename_i v hv
            cases h
            obtain ⟨g0, g1, g2⟩ := mjRd_ok hv
            have k9 := kk H hP locs (fun q hq => Or.inl hq)
            rw [all0.1, all0.2] at k9
            exact W.iald hx hb (hP.arr hw (by decide)) ((hK.arr (Or.inl rfl)).1 _ _) (fun h => by cases h) (mj_arrIn g0 g1) (mj_arrRd g2) rfl rfl hd k9
          · cases h
        · cases h
      · cases h
    · cases h
  · -- baload
    split at h
    · rename_i i a r
      split at h
      · rename_i k vs hw
        split at h
        · rename_i e1
          split at h
          · rename_i v hv
            cases h
            obtain ⟨g0, g1, g2⟩ := mjRd_ok hv
            have k9 := kk H hP locs (fun q hq => Or.inl hq)
            rw [all0.1, all0.2] at k9
            rcases e1 with e1 | e1
            · subst e1
              exact W.bald hx hb (hP.arr hw (by decide)) ((hK.arr (Or.inr (Or.inl rfl))).1 _ _) (fun h => by cases h) (mj_arrIn g0 g1) (mj_arrRd g2) rfl rfl hd k9
            · subst e1
              exact W.zald hx hb (hP.arr hw (by decide)) ((hK.arr (Or.inr (Or.inr (Or.inl rfl)))).1 _ _) (fun h => by cases h) (mj_arrIn g0 g1) (mj_arrRd g2) rfl rfl hd k9
          · cases h
        · cases h
      · cases h
    · cases h
  · -- laload
    split at h
    · rename_i i a r
      split at h
      · rename_i k vs hw
        split at h
        · rename_i e1; subst e1
          split at h
          · rename_i v hv
            cases h
            obtain ⟨g0, g1, g2⟩ := mjRd_ok hv
            have k9 := kk H hP locs (fun q hq => Or.inl hq)
            rw [all0.1, all0.2] at k9
            exact W.lald hx hb (hP.arr hw (by decide)) ((hK.arr (Or.inr (Or.inr (Or.inr (Or.inl rfl))))).1 _ _) (fun h => by cases h) (mj_arrIn g0 g1) (mj_arrRd g2) rfl rfl hd k9
          · cases h
        · cases h
      · cases h
    · cases h
  · -- aaload
    split at h
    · rename_i i a r
      split at h
      · rename_i k vs hw
        split at h
        · rename_i e1; subst e1
          split at h
          · rename_i v hv
            cases h
            obtain ⟨g0, g1, g2⟩ := mjRd_ok hv
            have k9 := kk H hP locs (fun q hq => Or.inl hq)
            rw [all0.1, all0.2] at k9
            exact W.aald hx hb (hP.arr hw (by decide)) ((hK.arr (Or.inr (Or.inr (Or.inr (Or.inr rfl))))).1 _ _) rfl (fun h => by cases h) (mj_arrIn g0 g1) (mj_arrRd g2) rfl rfl hd k9
          · cases h
        · cases h
      · cases h
    · cases h
  · -- iastore
    split at h
    · rename_i x i a r
      split at h
      · rename_i k vs hw
        split at h
        · rename_i e1; subst e1
          split at h
          · rename_i vs1 hv
            cases h
            obtain ⟨g0, g1, rfl⟩ := mjWr_ok hv
            refine W.iast hx hb (hP.arr hw (by decide)) ((hK.arr (Or.inl rfl)).1 _ _) (fun h => by cases h) (mj_arrIn g0 g1) rfl rfl hd (fun H1 z1 z2 z3 => ?_)
            have k9 := kk H1 (hP.set hw (mjAt.arr (by decide) g1 rfl z1) z2 z3) _ (mj_locs (locs := locs) (B := B) (a := a) (j := i.toNatClampNeg))
            obtain ⟨y1, y2⟩ := len0 (q := (100, vs.set i.toNatClampNeg (.int x))) hw (by rw [List.length_set])
            rw [y1, y2] at k9
            exact k9
          · cases h
        · cases h
      · cases h
    · cases h
  · -- bastore
    split at h
    · rename_i x i a r
      split at h
      · rename_i k vs hw
        split at h
        · rename_i e1; subst e1
          split at h
          · rename_i vs1 hv
            cases h
            obtain ⟨g0, g1, rfl⟩ := mjWr_ok hv
            refine W.bast hx hb (hP.arr hw (by decide)) ((hK.arr (Or.inr (Or.inl rfl))).1 _ _) (fun h => by cases h) (mj_arrIn g0 g1) rfl rfl hd (fun H1 z1 z2 z3 => ?_)
            have k9 := kk H1 (hP.set hw (mjAt.arr (by decide) g1 rfl z1) z2 z3) _ (mj_locs (locs := locs) (B := B) (a := a) (j := i.toNatClampNeg))
            obtain ⟨y1, y2⟩ := len0 (q := (101, vs.set i.toNatClampNeg (narrow .byte (.int x)))) hw (by rw [List.length_set])
            rw [y1, y2] at k9
            exact k9
          · cases h
        · split at h
          · rename_i e1; subst e1
            split at h
            · rename_i vs1 hv
              cases h
              obtain ⟨g0, g1, rfl⟩ := mjWr_ok hv
              refine W.zast hx hb (hP.arr hw (by decide)) ((hK.arr (Or.inr (Or.inr (Or.inl rfl)))).1 _ _) (fun h => by cases h) (mj_arrIn g0 g1) rfl rfl hd (fun H1 z1 z2 z3 => ?_)
              have k9 := kk H1 (hP.set hw (mjAt.arr (by decide) g1 rfl z1) z2 z3) _ (mj_locs (locs := locs) (B := B) (a := a) (j := i.toNatClampNeg))
              obtain ⟨y1, y2⟩ := len0 (q := (102, vs.set i.toNatClampNeg (narrow .boolean (.int x)))) hw (by rw [List.length_set])
              rw [y1, y2] at k9
              exact k9
            · cases h
          · cases h
      · cases h
    · cases h
  · -- lastore
    split at h
    · rename_i x i a r
      split at h
      · rename_i k vs hw
        split at h
        · rename_i e1; subst e1
          split at h
          · rename_i vs1 hv
            cases h
            obtain ⟨g0, g1, rfl⟩ := mjWr_ok hv
            refine W.last hx hb (hP.arr hw (by decide)) ((hK.arr (Or.inr (Or.inr (Or.inr (Or.inl rfl))))).1 _ _) (fun h => by cases h) (mj_arrIn g0 g1) rfl rfl hd (fun H1 z1 z2 z3 => ?_)
            have k9 := kk H1 (hP.set hw (mjAt.arr (by decide) g1 rfl z1) z2 z3) _ (mj_locs (locs := locs) (B := B) (a := a) (j := i.toNatClampNeg))
            obtain ⟨y1, y2⟩ := len0 (q := (103, vs.set i.toNatClampNeg (.long x))) hw (by rw [List.length_set])
            rw [y1, y2] at k9
            exact k9
          · cases h
        · cases h
      · cases h
    · cases h
  · -- aastore
    split at h
    · rename_i x i a r
      split at h
      · rename_i k vs k2 fs2 hw hw2
        split at h
        · rename_i e1
          obtain ⟨e1, e2⟩ := e1
          subst e1; subst e2
          split at h
          · rename_i vs1 hv
            cases h
            obtain ⟨g0, g1, rfl⟩ := mjWr_ok hv
            obtain ⟨rr, hr1, hr2, cellV, q1, q2, q3, q4⟩ := hP.obj hw2 (by decide)
            have hcls := (hK.1.1 8 _ rfl).2
            obtain ⟨kA, comp, k1, k2, k3, -⟩ := (hK.arr (k := 104) (Or.inr (Or.inr (Or.inr (Or.inr rfl))))).2
            have hcomp : comp = D.1 8 := Option.some.inj (k3.symm.trans hcls.1)
            subst hcomp
            obtain ⟨kC, hkC, -⟩ := hcls.2
            refine W.aast hx hb (hP.arr hw (by decide)) (fun q h => by cases h) (fun h => by cases h) k1 k2 rfl hkC ⟨g0, by rw [arrV_size]; exact g1⟩ q1 (fun q h => by rw [q3] at h; cases h) (by rw [q2]; exact hkC) (by rw [q2]; exact va_assign hcls) rfl rfl hd (fun H1 z1 z2 z3 => ?_)
            have k9 := kk H1 (hP.set hw (mjAt.arr (by decide) g1 (v := .ref x) rfl z1) z2 z3) _ (mj_locs (locs := locs) (B := B) (a := a) (j := i.toNatClampNeg))
            obtain ⟨y1, y2⟩ := len0 (q := (104, vs.set i.toNatClampNeg (.ref x))) hw (by rw [List.length_set])
            rw [y1, y2] at k9
            exact k9
          · cases h
        · cases h
      · cases h
    · cases h
  · -- arraylength
    split at h
    · rename_i a r
      split at h
      · rename_i k vs hw
        split at h
        · rename_i e1
          cases h
          have k9 := kk H hP locs (fun q hq => Or.inl hq)
          rw [all0.1, all0.2] at k9
          exact W.alen hx hb (ty := mjAT k) (hP.arr hw (by omega)) ((hK.arr (by omega)).1 _ _) (by rw [arrV_size]) rfl rfl hd k9
        · cases h
      · cases h
    · cases h
  · -- new
    rename_i idx
    split at h
    · rename_i ci tl
      cases h
      unfold mjOkH at ho; simp only at ho
      split at ho
      · rename_i ci2 p1 p2 p3 tl2 heq
        cases heq
        split at ho
        · rename_i C T N hc
          simp only [Bool.and_eq_true, decide_eq_true_eq] at ho
          obtain ⟨⟨⟨o1, o2⟩, o3⟩, o4⟩ := ho
          obtain ⟨gin, gty, gnm, gN⟩ := mjCls ci C T N hc
          have hKn := hK.1.1 ci _ hc
          have hdl : (mjDef ci).length = N := by unfold mjDef; rw [List.length_map, List.length_range, gN]
          have c1 : (w ++ [(ci, mjDef ci)]).length - w.length = 1 := by rw [List.length_append]; show w.length + 1 - w.length = 1; omega
          have c2 : ((w ++ [(ci, mjDef ci)]).map (fun q : Nat × List Value => q.2.length)).sum - (w.map (fun q : Nat × List Value => q.2.length)).sum = N := by
            rw [List.map_append, List.sum_append]
            show _ + ((mjDef ci).length + 0) - _ = N
            rw [hdl]; omega
          rw [c1] at hcells kk
          rw [c2] at hslots kk
          refine W.newcK hx hb hown (hts _ (mjHas_in o2)) (hts _ (mjHas_in o3)) (hts _ (mjHas_in o4)) rfl hd hcells hslots hKn.2.1 rfl fun H1 kC hkC e1 z1 oo => ?_
          have hOB := (u_born (mjTyp ci) hts gin hKn hkC e1 gty).to (V' := vp_V ((mjDef ci).map (mjTr B xa))) (fun j hj => by
            have : (mjDef ci)[j]? = some (defaultValue (mjTyp ci j)) := by
              unfold mjDef
              rw [List.getElem?_map, List.getElem?_range (by rw [gN]; exact hj)]; rfl
            simp only [vp_V, List.getD_eq_getElem?_getD, List.getElem?_map, this, Option.map_some, Option.getD_some]
            cases mjTyp ci j <;> rfl)
          have k9 := kk H1 (hP.push (q1 := (ci, mjDef ci)) (by
            unfold mjAt
            rw [if_pos o1, ← hP.1]
            exact ⟨_, hc, hdl, hOB⟩) z1 oo) locs (fun q hq => Or.inl hq)
          rw [hP.1]
          exact k9
        · cases ho
      · cases ho
    · cases h
  · -- newarray
    rename_i t
    split at h
    · rename_i n r
      split at h
      · rename_i k tl
        split at h
        · rename_i hn
          cases h
          unfold mjOkH at ho; simp only at ho
          split at ho
          · rename_i k2 p1 tl2 heq
            cases heq
            simp only [Bool.and_eq_true, decide_eq_true_eq] at ho
            obtain ⟨⟨o1, o2⟩, o3⟩ := ho
            have hk5 : k = 100 ∨ k = 101 ∨ k = 102 ∨ k = 103 ∨ k = 104 := by omega
            have c1 : (w ++ [(k, List.replicate n.toNatClampNeg (defaultValue (mjAT k)))]).length - w.length = 1 := by rw [List.length_append]; show w.length + 1 - w.length = 1; omega
            have c2 : ((w ++ [(k, List.replicate n.toNatClampNeg (defaultValue (mjAT k)))]).map (fun q : Nat × List Value => q.2.length)).sum - (w.map (fun q : Nat × List Value => q.2.length)).sum = n.toNatClampNeg := by
              rw [List.map_append, List.sum_append]
              show _ + ((List.replicate n.toNatClampNeg (defaultValue (mjAT k))).length + 0) - _ = _
              rw [List.length_replicate]; omega
            rw [c1] at hcells kk
            rw [c2] at hslots kk
            have hbytes : n.toNatClampNeg * componentBytes (newarray.typeOf t) ≤ 536870912 := by
              rw [o2]
              have : componentBytes (mjAT k) ≤ 8 := by rcases o1 with rfl | rfl | rfl | rfl <;> decide
              exact Nat.le_trans (Nat.mul_le_mul hn.2 this) (by decide)
            refine W.newa hx hb (by rw [o2]; exact hts _ (mjHas_in o3)) rfl hd rfl hn.1 hbytes hcells hslots fun cA kA comp f1 f2 f3 => ?_
            have hcA : cA = cT k := by
              have hra := (hK.arr hk5).2
              rw [o2] at f1
              rcases o1 with rfl | rfl | rfl | rfl <;> exact Option.some.inj (f1.symm.trans hra)
            have k9 := kk (H.push { cls := cA, slots := Array.replicate n.toNatClampNeg (defaultValue (newarray.typeOf t)), vm := .none }) (hP.push (q1 := (k, List.replicate n.toNatClampNeg (defaultValue (mjAT k)))) (by
              unfold mjAt
              rw [if_neg (by omega), ← hP.1, arrV_new, hcA, o2]
              show _ = some (arrV (cT k) (List.replicate n.toNatClampNeg (defaultValue (mjAT k))).length _)
              rw [List.length_replicate]
              have hf : (fun j => mjTr B xa ((List.replicate n.toNatClampNeg (defaultValue (mjAT k))).getD j .null)) = (fun j => if j < n.toNatClampNeg then defaultValue (mjAT k) else .null) := by
                funext j
                rw [List.getD_eq_getElem?_getD, List.getElem?_replicate]
                split
                · rcases o1 with rfl | rfl | rfl | rfl <;> rfl
                · rfl
              rw [hf]
              simp only [Array.getElem?_push_size]
              congr 1
              unfold arrV
              congr 1
              apply Array.ext
              · simp
              · intro i h1 h2
                simp at h1
                simp [h1]) (by simp) (fun x hx => by rw [Array.getElem?_push, if_neg (Nat.ne_of_lt hx)])) locs (fun q hq => Or.inl hq)
            rw [hP.1]
            exact k9
          · cases ho
        · cases h
      · cases h
    · cases h
  · -- anewarray
    rename_i idx
    split at h
    · rename_i n r
      split at h
      · rename_i hn
        cases h
        unfold mjOkH at ho; simp only at ho
        split at ho
        · rename_i p1 tl2
          have c1 : (w ++ [(104, List.replicate n.toNatClampNeg Value.null)]).length - w.length = 1 := by rw [List.length_append]; show w.length + 1 - w.length = 1; omega
          have c2 : ((w ++ [(104, List.replicate n.toNatClampNeg Value.null)]).map (fun q : Nat × List Value => q.2.length)).sum - (w.map (fun q : Nat × List Value => q.2.length)).sum = n.toNatClampNeg := by
            rw [List.map_append, List.sum_append]
            show _ + ((List.replicate n.toNatClampNeg Value.null).length + 0) - _ = _
            rw [List.length_replicate]; omega
          rw [c1] at hcells kk
          rw [c2] at hslots kk
          refine W.anew hx hb hown (hts _ (mjHas_in ho)) hK.2.2.use rfl hd rfl hn.1 (by omega) hcells hslots fun cA kA comp f1 f2 f3 f4 => ?_
          have hcA : cA = cT 104 := by
            obtain ⟨kA2, comp2, -, -, -, hra⟩ := (hK.arr (k := 104) (Or.inr (Or.inr (Or.inr (Or.inr rfl))))).2
            exact Option.some.inj (f1.symm.trans hra)
          have k9 := kk (H.push { cls := cA, slots := Array.replicate n.toNatClampNeg .null, vm := .none }) (hP.push (q1 := (104, List.replicate n.toNatClampNeg .null)) (by
            unfold mjAt
            rw [if_neg (show ¬ 104 < 100 by decide), ← hP.1, arrV_new, hcA]
            show _ = some (arrV (cT 104) (List.replicate n.toNatClampNeg Value.null).length _)
            rw [List.length_replicate]
            have hf : (fun j => mjTr B xa ((List.replicate n.toNatClampNeg Value.null).getD j .null)) = (fun _ => .null) := by
              funext j
              rw [List.getD_eq_getElem?_getD, List.getElem?_replicate]
              split <;> rfl
            rw [hf]
            simp only [Array.getElem?_push_size]) (by simp) (fun x hx => by rw [Array.getElem?_push, if_neg (Nat.ne_of_lt hx)])) locs (fun q hq => Or.inl hq)
          rw [hP.1]
          exact k9
        · cases ho
      · cases h
    · cases h
  · cases h
end MjH
end
section
/-! ===== what is there before the law: two Strings, two statics, the script ===== -/
def mjSLen : List Nat := [137, 11]
def mjSByt : List (List Int32) := [[108, 97, 110, 101, 115, 32, 114, 111, 119, 115, 32, 115, 108, 111, 112, 101, 32, 108, 105, 101, 115, 32, 119, 97, 108, 108, 32, 114, 111, 111, 109, 32, 103, 117, 101, 115, 116, 32, 116, 105, 112, 115, 32, 102, 97, 108, 108, 115, 32, 119, 105, 110, 100, 32, 100, 114, 97, 119, 32, 115, 110, 111, 119, 32, 115, 116, 101, 101, 112, 32, 110, 111, 105, 115, 101, 32, 98, 101, 108, 111, 119, 32, 104, 111, 117, 114, 32, 114, 111, 119, 32, 108, 101, 102, 116, 32, 114, 105, 103, 104, 116, 32, 108, 97, 110, 101, 32, 98, 101, 97, 114, 115, 32, 114, 97, 116, 101, 32, 102, 114, 111, 109, 32, 116, 111, 32, 111, 114, 32, 97, 110, 100, 32, 110, 111, 116, 32], [59, 40, 41, 60, 62, 61, 43, 45, 42, 47, 37]]
def mjSIdx : List Nat := [19, 63]
def mjSTxt : List String := ["lanes rows slope lies wall room guest tips falls wind draw snow steep noise below hour row left right lane bears rate from to or and not ", ";()<>=+-*/%"]
def mjEA (B : Nat) : Nat → Prop := fun q => B ≤ q
def mjE (B : Nat) (xa : Nat → Option Nat) (sc : List Int32) (H0 : Heap) (U : State) : Prop :=
  H0.size = B ∧ (∀ k, k ≠ 4 → ∃ a, xa k = some a) ∧ va_Z "java/lang/String" "COMPACT_STRINGS" "Z" (.int 1) (mjEA B) U H0 ∧ va_Z "jdk/internal/util/Preconditions" "SIOOBE_FORMATTER" "Ljava/util/function/BiFunction;" (va_rf (xa 4)) (mjEA B) U H0 ∧
  (∃ adK adV : Nat → Nat, vk_S 2 mjSLen mjSByt adK adV (mjEA B) U H0 ∧ xa 0 = some (adK 0) ∧ xa 1 = some (adK 1) ∧ xa 2 = some (adV 0) ∧ xa 3 = some (adV 1) ∧ ∀ i, i < 2 → vk_R "AvalancheInn$Lexer" (mjSIdx.getD i 0) (mjSTxt.getD i "") (adK i) U) ∧
  ∃ b, xa 9 = some b ∧ va_X b sc.length (fun j => sc.getD j 0) U H0 ∧ b < B
theorem mjE.warm {B : Nat} {xa : Nat → Option Nat} {sc : List Int32} {H0 : Heap} {s U : State} (hW : s.WarmedH U.vm) (h : mjE B xa sc H0 s) : mjE B xa sc H0 U := by
  obtain ⟨h1, h2, h3, h4, ⟨adK, adV, k1, k2, k3, k4, k5, k6⟩, b, b1, ⟨scr, x1, x2, x3⟩, b2⟩ := h
  exact ⟨h1, h2, h3.moved hW.alike, h4.moved hW.alike, ⟨adK, adV, k1.moved hW.alike, k2, k3, k4, k5, fun i hi => (k6 i hi).warm hW⟩, b, b1, ⟨scr, x1, State.isArrayOf_alike hW.alike x2, x3⟩, b2⟩
theorem mjE.same {B : Nat} {xa : Nat → Option Nat} {sc : List Int32} {H0 : Heap} {s U : State} (hv : s.vm = U.vm) (h : mjE B xa sc H0 s) : mjE B xa sc H0 U := by
  have ha : s.vm.Alike U.vm := by rw [hv]; exact Vm.Alike.refl U.vm
  obtain ⟨h1, h2, h3, h4, ⟨adK, adV, k1, k2, k3, k4, k5, k6⟩, b, b1, ⟨scr, x1, x2, x3⟩, b2⟩ := h
  exact ⟨h1, h2, h3.moved ha, h4.moved ha, ⟨adK, adV, k1.moved ha, k2, k3, k4, k5, fun i hi => (k6 i hi).same hv.symm⟩, b, b1, ⟨scr, x1, State.isArrayOf_alike ha x2, x3⟩, b2⟩
/-- what is below B stays -/
def mjS (B : Nat) (H0 : Heap) (s : State) (H : Heap) (locs : List Loc) : Prop := s.heap.size ≤ H.size ∧ (∀ q : Nat, q < B → s.heap[q]? = H0[q]?) ∧ (∀ q : Nat, q < B → H[q]? = H0[q]?) ∧ ∀ q ∈ locs, B ≤ q.base
theorem mjS.va {B : Nat} {H0 : Heap} {s : State} {H : Heap} {locs : List Loc} (h : mjS B H0 s H locs) : va_S (mjEA B) s.heap H locs := by
  refine ⟨h.1, fun q _ h2 => ?_, h.2.2.2⟩
  have hq : q < B := Nat.not_le.mp h2
  rw [h.2.2.1 q hq, h.2.1 q hq]
theorem mjS.kept {B : Nat} {H0 : Heap} {s : State} {H : Heap} {locs : List Loc} (h : mjS B H0 s H locs) : ∀ a : Nat, a < H0.size → ¬ (mjEA B) a → s.heap[a]? = H0[a]? := fun a _ h2 => h.2.1 a (Nat.not_le.mp h2)
-- ===== pushes; inf: the number and the place of its word =====
def mjPu (ins : Instr) (inf : List Nat) : Option (Value × Nat) := match ins with
  | .bipush n => some (.int (Int8.ofInt n).toInt32, 2)
  | .sipush n => some (.int (Int16.ofInt n).toInt32, 3)
  | .ldc _ => match inf with | 0 :: v :: _ => some (.int (Int32.ofNat v), 2) | 1 :: i :: _ => if i < 2 then some (.retAddr i, 2) else none | _ => none
  | .ldc_w _ => match inf with | 0 :: v :: _ => some (.int (Int32.ofNat v), 3) | _ => none
  | .ldc2_w _ => match inf with | v :: _ => some (.long (Int64.ofNat v), 3) | _ => none
  | _ => none
def mjOkPu (own : String) (ins : Instr) (inf : List Nat) : Bool := match ins with
  | .ldc idx => (match inf with | 0 :: v :: pl :: _ => mjHas pl (.constant own idx (Int32.ofNat v)) | 1 :: i :: _ => decide (own = "AvalancheInn$Lexer" ∧ mjSIdx.getD i 0 = idx) | _ => false)
  | .ldc_w idx => (match inf with | 0 :: v :: pl :: _ => mjHas pl (.constant own idx (Int32.ofNat v)) | _ => false)
  | .ldc2_w idx => (match inf with | v :: pl :: _ => mjHas pl (.constantLong own idx (Int64.ofNat v)) | _ => false)
  | _ => true
-- ===== reads of what was there before =====
def mjX (sc : List Int32) (ins : Instr) (inf : List Nat) (st : List Value) : Option (List Value × Nat) := match ins with
  | .getstatic _ => match inf with | 0 :: _ => some (.int 1 :: st, 3) | 1 :: _ => some (.retAddr 4 :: st, 3) | _ => none
  | .getfield _ => match st with
    | .retAddr a :: r => (match inf with | 0 :: _ => if a < 2 then some (.retAddr (a + 2) :: r, 3) else none | 1 :: _ => if a < 2 then some (.int 0 :: r, 3) else none | _ => none)
    | _ => none
  | .arraylength => match st with
    | .retAddr a :: r => if a = 9 then some (.int (Int32.ofNat sc.length) :: r, 1) else if a = 2 ∨ a = 3 then some (.int (Int32.ofNat (mjSLen.getD (a - 2) 0)) :: r, 1) else none
    | _ => none
  | .baload => match st with
    | .int i :: .retAddr a :: r => if (a = 2 ∨ a = 3) ∧ ¬ i < 0 ∧ i.toNatClampNeg < mjSLen.getD (a - 2) 0 then some (.int ((mjSByt.getD (a - 2) []).getD i.toNatClampNeg 0) :: r, 1) else none
    | _ => none
  | .iaload => match st with
    | .int i :: .retAddr a :: r => if a = 9 ∧ ¬ i < 0 ∧ i.toNatClampNeg < sc.length then some (.int (sc.getD i.toNatClampNeg 0) :: r, 1) else none
    | _ => none
  | _ => none
def mjOkX (own : String) (ins : Instr) (inf : List Nat) : Bool := match ins with
  | .getstatic idx => (match inf with | 0 :: pl :: _ => mjHas pl (.fieldLink own idx "java/lang/String" "COMPACT_STRINGS" "Z") | 1 :: pl :: _ => mjHas pl (.fieldLink own idx "jdk/internal/util/Preconditions" "SIOOBE_FORMATTER" "Ljava/util/function/BiFunction;") | _ => false)
  | .getfield idx => (match inf with | 0 :: pl :: _ => mjHas pl (.fieldLink own idx "java/lang/String" "value" "[B") | 1 :: pl :: _ => mjHas pl (.fieldLink own idx "java/lang/String" "coder" "B") | _ => false)
  | _ => true
section MjX
variable {p : Program} {l : Launch} {e : Env} {R : Room} {s : State} {m : MethodId} {args : Array Value} {below : List Frame} {meth : Method} {c : Code} {H H0 : Heap} {locs : List Loc} {cells slots : Nat} {Q : State → Prop}
variable {cc : ByteArray} {pc : Nat} {lm : Array Slot} {B : Nat} {xa : Nat → Option Nat} {D : va_G} {cT : Nat → ClassId} {w : MjW} {rest : List Value} {sc : List Int32}
theorem mj_simPu (hx : p.tables.exec = Jvm.exec) (hb : c.code = cc) {own : String} {ins : Instr} {len : Nat} {inf : List Nat} {v : Value} {st : List Value} (h : mjPu ins inf = some (v, len)) (ho : mjOkPu own ins inf = true) (hts : ∀ w ∈ mjAll, w.before args s = true) (hown : s.vm.findClass own = some m.cls) (hE : mjE B xa sc H0 s) (hd : decode cc pc = .ok (ins, len))
    (k : W p l e R s m args below meth c H locs cells slots Q (F0 m (pc + len) lm ((v :: st).map (mjTr B xa)))) : W p l e R s m args below meth c H locs cells slots Q (F0 m pc lm (st.map (mjTr B xa))) := by
  unfold mjPu at h
  split at h
  · cases h; exact lv_bipush hx hb hd rfl k
  · cases h; exact lv_sipush hx hb hd rfl k
  · rename_i idx
    split at h
    · rename_i v0 tl
      cases h
      unfold mjOkPu at ho; simp only at ho
      split at ho
      · rename_i v1 pl tl2 heq
        cases heq
        exact lv_ldc hx hb hown (hts _ (mjHas_in ho)) hd k
      · rename_i i tl2 heq; cases heq
      · cases ho
    · rename_i i tl
      split at h
      · rename_i hi
        cases h
        unfold mjOkPu at ho; simp only [decide_eq_true_eq] at ho
        obtain ⟨-, -, -, -, ⟨adK, adV, -, k2, k3, -, -, k6⟩, -⟩ := hE
        have hz := k6 i hi
        rw [ho.2] at hz
        have hxa : mjTr B xa (.retAddr i) = .ref (adK i) := by
          show va_rf (xa i) = _
          have : i = 0 ∨ i = 1 := by omega
          rcases this with rfl | rfl
          · rw [k2]; rfl
          · rw [k3]; rfl
        rw [List.map_cons, hxa] at k
        exact va_ldcS hx hb (by rw [ho.1] at hown; exact hown) hz hd k
      · cases h
    · cases h
  · rename_i idx
    split at h
    · rename_i v0 tl
      cases h
      unfold mjOkPu at ho; simp only at ho
      split at ho
      · rename_i v1 pl tl2 heq
        cases heq
        exact lv_ldcw hx hb hown (hts _ (mjHas_in ho)) hd k
      · cases ho
    · cases h
  · rename_i idx
    split at h
    · rename_i v0 tl
      cases h
      unfold mjOkPu at ho; simp only at ho
      split at ho
      · rename_i v1 pl tl2 heq
        cases heq
        exact lv_ldc2 hx hb hown (hts _ (mjHas_in ho)) hd k
      · cases ho
    · cases h
  · cases h
set_option maxHeartbeats 2000000 in
theorem mj_simX (hx : p.tables.exec = Jvm.exec) (hb : c.code = cc) {own : String} {ins : Instr} {len : Nat} {inf : List Nat} {st st1 : List Value} (h : mjX sc ins inf st = some (st1, len)) (ho : mjOkX own ins inf = true) (hts : ∀ w ∈ mjAll, w.before args s = true) (hown : s.vm.findClass own = some m.cls) (hE : mjE B xa sc H0 s) (hS : mjS B H0 s H locs) (hd : decode cc pc = .ok (ins, len))
    (k : W p l e R s m args below meth c H locs cells slots Q (F0 m (pc + len) lm (st1.map (mjTr B xa)))) : W p l e R s m args below meth c H locs cells slots Q (F0 m pc lm (st.map (mjTr B xa))) := by
  obtain ⟨hB, hxa, z1, z2, ⟨adK, adV, hsk, k2, k3, k4, k5, -⟩, b, hb9, hX, hbB⟩ := hE
  have tK : ∀ i, i < 2 → mjTr B xa (.retAddr i) = .ref (adK i) := fun i hi => by
    show va_rf (xa i) = _
    have : i = 0 ∨ i = 1 := by omega
    rcases this with rfl | rfl
    · rw [k2]; rfl
    · rw [k3]; rfl
  have tV : ∀ i, i < 2 → mjTr B xa (.retAddr (i + 2)) = .ref (adV i) := fun i hi => by
    show va_rf (xa (i + 2)) = _
    have : i = 0 ∨ i = 1 := by omega
    rcases this with rfl | rfl
    · rw [k4]; rfl
    · rw [k5]; rfl
  have t9 : mjTr B xa (.retAddr 9) = .ref b := by show va_rf (xa 9) = _; rw [hb9]; rfl
  unfold mjX at h
  split at h
  · rename_i idx
    split at h
    · cases h
      unfold mjOkX at ho; simp only at ho
      split at ho
      · exact va_gets hx hb (z1.kept hS.kept) hS.va hown (hts _ (mjHas_in ho)) (fun _ h9 => h9) hd k
      · rename_i heq; cases heq
      · cases ho
    · cases h
      unfold mjOkX at ho; simp only at ho
      split at ho
      · rename_i heq; cases heq
      · exact va_gets hx hb (z2.kept hS.kept) hS.va hown (hts _ (mjHas_in ho)) (fun _ h9 => h9) hd k
      · cases ho
    · cases h
  · rename_i idx
    split at h
    · rename_i a r
      split at h
      · split at h
        · rename_i ha
          cases h
          rw [List.map_cons, tK a ha]
          rw [List.map_cons, tV a ha] at k
          unfold mjOkX at ho; simp only at ho
          split at ho
          · exact vk_getf hx hb ((hsk.1 a ha).2.2.1.kept hS.kept) hS.va hown (hts _ (mjHas_in ho)) (fun _ h9 => h9) hd k
          · rename_i heq; cases heq
          · cases ho
        · cases h
      · split at h
        · rename_i ha
          cases h
          rw [List.map_cons, tK a ha]
          unfold mjOkX at ho; simp only at ho
          split at ho
          · rename_i heq; cases heq
          · exact vk_getf hx hb ((hsk.1 a ha).2.1.kept hS.kept) hS.va hown (hts _ (mjHas_in ho)) (fun _ h9 => h9) hd k
          · cases ho
        · cases h
      · cases h
    · cases h
  · split at h
    · rename_i a r
      split at h
      · rename_i ha
        subst ha
        cases h
        rw [List.map_cons, t9]
        obtain ⟨scr, x1, x2, x3, x4, x5⟩ := hX
        exact W.alen hx hb (by rw [hS.2.2.1 b hbB]; exact x1) x2 (by rw [x4]) rfl rfl hd k
      · split at h
        · rename_i ha
          cases h
          obtain ⟨i, hi, rfl⟩ : ∃ i, i < 2 ∧ a = i + 2 := ⟨a - 2, by omega, by omega⟩
          rw [List.map_cons, tV i hi]
          exact va_tlen hx hb ((hsk.1 i hi).2.2.2.kept hS.kept) hS.va rfl hd k
        · cases h
    · cases h
  · split at h
    · rename_i i a r
      split at h
      · rename_i ha
        cases h
        obtain ⟨q, hq, rfl⟩ : ∃ q, q < 2 ∧ a = q + 2 := ⟨a - 2, by omega, by omega⟩
        obtain ⟨-, h0, h1⟩ := ha
        obtain ⟨cell, c1, c2, c3, c4, c5, c6, c7⟩ := (hsk.1 q hq).2.2.2
        rw [List.map_cons, List.map_cons, tV q hq]
        refine W.bald hx hb (by rw [hS.2.2.1 _ (Nat.not_le.mp c7)]; exact c1) c2 c3 (fun z => ?_) (c6 i.toNatClampNeg h1) rfl rfl hd k
        rcases z with z | z
        · exact h0 z
        · have : i.toNatClampNeg < mjSLen.getD q 0 := h1
          omega
      · cases h
    · cases h
  · split at h
    · rename_i i a r
      split at h
      · rename_i ha
        obtain ⟨rfl, h0, h1⟩ := ha
        cases h
        rw [List.map_cons, List.map_cons, t9]
        obtain ⟨scr, x1, x2, x3, x4, x5⟩ := hX
        refine W.iald hx hb (by rw [hS.2.2.1 b hbB]; exact x1) x2 x3 (fun z => ?_) (x5 i.toNatClampNeg h1) rfl rfl hd k
        rcases z with z | z
        · exact h0 z
        · omega
      · cases h
    · cases h
  · cases h
end MjX
end
section
/-! ===== calls, members of the JDK taken whole, returns ===== -/
abbrev MjM : Type := MethodName × ByteArray × Nat × Option FieldType × Nat
def mjCat (r : List Value) : Nat := (r.map fun v => v.category).sum
theorem mjCat_tr (B : Nat) (xa : Nat → Option Nat) (r : List Value) : ((r.map (mjTr B xa)).map fun v => v.category).sum = mjCat r := by
  unfold mjCat
  rw [List.map_map]
  congr 1
  apply List.map_congr_left
  intro v _
  exact mjTr_cat B xa v
def mjIsI (v : Value) : Bool := match v with | .int _ => true | _ => false
def mjCpy (vs0 vs1 : List Value) (sp dp n : Nat) : List Value := vs1.take dp ++ ((vs0.drop sp).take n ++ vs1.drop (dp + n))
def mjPr (ins : Instr) (inf : List Nat) (st : List Value) (w : MjW) : Option (List Value × MjW) := match ins with
  | .invokespecial _ => match inf with
    | 1 :: _ => (match st with | .ref _ :: r => if mjCat r ≤ 8 then some (r, w) else none | _ => none)
    | _ => none
  | .invokestatic _ => match inf with
    | 2 :: _ => (match st with | .int y :: .int x :: r => if mjCat r ≤ 8 then some (.int (if x < y then y else x) :: r, w) else none | _ => none)
    | 3 :: _ => (match st with | .int y :: .int x :: r => if mjCat r ≤ 8 then some (.int (if y < x then y else x) :: r, w) else none | _ => none)
    | 4 :: _ => (match st with
      | .int n :: .int dp :: .ref a1 :: .int sp :: .ref a0 :: r => (match w[a0]?, w[a1]? with
        | some (k0, vs0), some (k1, vs1) => if k0 = 100 ∧ k1 = 100 ∧ ¬ sp < 0 ∧ ¬ dp < 0 ∧ ¬ n < 0 ∧ sp.toNatClampNeg + n.toNatClampNeg ≤ vs0.length ∧ dp.toNatClampNeg + n.toNatClampNeg ≤ vs1.length ∧ vs0.all mjIsI = true ∧ mjCat r ≤ 8 then some (r, w.set a1 (100, mjCpy vs0 vs1 sp.toNatClampNeg dp.toNatClampNeg n.toNatClampNeg)) else none
        | _, _ => none)
      | _ => none)
    | _ => none
  | _ => none
def mjC (ins : Instr) (inf : List Nat) (st : List Value) (w : MjW) : Option (Nat × List Value × List Value) := match ins with
  | .invokevirtual _ => match inf with
    | 0 :: y :: n :: ci :: _ => (match st.drop n with
      | .ref b :: r => (match w[b]? with | some (cj, _) => if cj = ci ∧ cj < 100 ∧ n ≤ st.length ∧ mjCat r ≤ 8 then some (y, .ref b :: (st.take n).reverse, r) else none | none => none)
      | .retAddr b :: r => if ci = 200 ∧ b < 2 ∧ n ≤ st.length ∧ mjCat r ≤ 8 then some (y, .retAddr b :: (st.take n).reverse, r) else none
      | _ => none)
    | _ => none
  | .invokestatic _ => match inf with
    | 0 :: y :: n :: _ => if n ≤ st.length ∧ mjCat (st.drop n) ≤ 8 then some (y, (st.take n).reverse, st.drop n) else none
    | _ => none
  | .invokespecial _ => match inf with
    | 0 :: y :: n :: _ => (match st.drop n with
      | .ref b :: r => if n ≤ st.length ∧ mjCat r ≤ 8 then some (y, .ref b :: (st.take n).reverse, r) else none
      | _ => none)
    | _ => none
  | _ => none
def mjRt (ins : Instr) (ret : Option FieldType) (st : List Value) : Option (Option Value) := match ins with
  | .ireturn => match st with
    | .int v :: [] => (match ret with | some ty => if narrow ty (.int v) = .int v then some (some (.int v)) else none | none => none)
    | _ => none
  | .lreturn => match st with
    | .long v :: [] => if ret = some .long then some (some (.long v)) else none
    | _ => none
  | .areturn => match st with
    | .ref a :: [] => (match ret with | some (.object _) => some (some (.ref a)) | _ => none)
    | _ => none
  | .return_ => match st with
    | [] => if ret = none then some none else none
    | _ => none
  | _ => none
def mjNestHas (pl : Nat) (w : Cond) : Bool := decide (lw_tbl[pl]? = some w) && (match w with | .methodLinkNest _ _ _ _ => true | _ => false)
theorem mjNestHas_in {pl : Nat} {w : Cond} (h : mjNestHas pl w = true) : w ∈ mjNest := by
  unfold mjNestHas at h
  simp only [Bool.and_eq_true, decide_eq_true_eq] at h
  exact List.mem_filter.mpr ⟨List.mem_of_getElem? h.1, h.2⟩
def mjDesc (nm : MethodName) (n : Nat) : Bool := decide (nm.cls ≠ "java/lang/invoke/MethodHandle") && (decide (nm.cls ≠ "java/lang/invoke/VarHandle") && decide ((parseMethodDescriptor nm.desc).map (fun d => d.parameters.length) = some n))
def mjOkC (mt : Nat → Option MjM) (own : String) (ins : Instr) (inf : List Nat) : Bool := match ins with
  | .invokevirtual idx => (match inf with
    | _ :: y :: n :: ci :: p1 :: p2 :: p3 :: p4 :: _ => (match mt y with
      | some (nm, _) => mjHas p1 (.methodLink own idx nm) && (mjHas p2 (.instanceMethod nm) && (mjHas p3 (.selects nm.cls nm nm) && (mjHas p4 (.initialized nm.cls) && (mjDesc nm n && (bif Nat.beq ci 200 then decide (nm.cls = "java/lang/String") else decide ((vwCl[ci]?).map (fun r => r.1) = some nm.cls))))))
      | none => false)
    | _ => false)
  | .invokestatic idx => (match inf with
    | 0 :: y :: n :: k :: p1 :: p2 :: p3 :: _ => (match mt y with
      | some (nm, _) => (bif Nat.beq k 0 then mjHas p1 (.methodLink own idx nm) else mjNestHas p1 (.methodLinkNest own idx nm "AvalancheInn")) && (mjHas p2 (.static nm) && (mjHas p3 (.initialized nm.cls) && mjDesc nm n))
      | none => false)
    | _ => false)
  | .invokespecial idx => (match inf with
    | 0 :: y :: n :: k :: p1 :: p2 :: p3 :: _ => (match mt y with
      | some (nm, _, _, rt, _) => (bif Nat.beq k 0 then mjHas p1 (.methodLink own idx nm) else mjNestHas p1 (.methodLinkNest own idx nm "AvalancheInn")) && (mjHas p2 (.instanceMethod nm) && (mjHas p3 (.initialized nm.cls) && (mjDesc nm n && (decide (nm.name = "<init>") && decide (rt = none)))))
      | none => false)
    | _ => false)
  | _ => true
def mjOkPr (own : String) (ins : Instr) (inf : List Nat) : Bool := match ins with
  | .invokespecial idx => (match inf with
    | _ :: p1 :: p2 :: p3 :: _ => mjHas p1 (.methodLink own idx objectInit) && (mjHas p2 (.instanceMethod objectInit) && mjHas p3 (.code objectInit ⟨#[0xb1]⟩ 1 none))
    | _ => false)
  | .invokestatic idx => (match inf with
    | 2 :: p1 :: p2 :: p3 :: p4 :: _ => mjHas p1 (.methodLink own idx Lib.Math.max.name) && (mjHas p2 (.static Lib.Math.max.name) && (mjHas p3 (.initialized "java/lang/Math") && mjHas p4 (.code Lib.Math.max.name Lib.Math.max.code 2 (some .int))))
    | 3 :: p1 :: p2 :: p3 :: p4 :: _ => mjHas p1 (.methodLink own idx Lib.Math.min.name) && (mjHas p2 (.static Lib.Math.min.name) && (mjHas p3 (.initialized "java/lang/Math") && mjHas p4 (.code Lib.Math.min.name Lib.Math.min.code 2 (some .int))))
    | 4 :: p1 :: p2 :: p3 :: p4 :: _ => mjHas p1 (.methodLink own idx arraycopyName) && (mjHas p2 (.static arraycopyName) && (mjHas p3 (.initialized "java/lang/System") && mjHas p4 (.native arraycopyName)))
    | _ => false)
  | _ => true
theorem mjCpy_get {vs0 vs1 : List Value} {sp dp n : Nat} (h0 : sp + n ≤ vs0.length) (h1 : dp + n ≤ vs1.length) (B : Nat) (xa : Nat → Option Nat) : (fun j => mjTr B xa ((mjCpy vs0 vs1 sp dp n).getD j .null)) = va_cpy (fun j => mjTr B xa (vs0.getD j .null)) (fun j => mjTr B xa (vs1.getD j .null)) sp dp n := by
  funext j
  unfold mjCpy va_cpy
  have l1 : (vs1.take dp).length = dp := by rw [List.length_take]; omega
  have l2 : ((vs0.drop sp).take n).length = n := by rw [List.length_take, List.length_drop]; omega
  simp only [List.getD_eq_getElem?_getD]
  by_cases ha : j < dp
  · rw [if_neg (by omega), List.getElem?_append_left (by omega), List.getElem?_take_of_lt ha]
  · rw [List.getElem?_append_right (by omega), l1]
    by_cases hb : j < dp + n
    · rw [if_pos ⟨by omega, hb⟩, List.getElem?_append_left (by omega), List.getElem?_take_of_lt (by omega), List.getElem?_drop]
    · rw [if_neg (by omega), List.getElem?_append_right (by omega), l2, List.getElem?_drop]
      congr 3
      have : dp + n + (j - dp - n) = j := by omega
      rw [this]
theorem mjCpy_len {vs0 vs1 : List Value} {sp dp n : Nat} (h0 : sp + n ≤ vs0.length) (h1 : dp + n ≤ vs1.length) : (mjCpy vs0 vs1 sp dp n).length = vs1.length := by
  unfold mjCpy
  rw [List.length_append, List.length_append, List.length_take, List.length_take, List.length_drop, List.length_drop]
  omega
section MjC
variable {p : Program} {l : Launch} {e : Env} {R : Room} {s : State} {m : MethodId} {args : Array Value} {below : List Frame} {meth : Method} {c : Code} {H H0 : Heap} {locs : List Loc} {cells slots : Nat} {Q : State → Prop}
variable {cc : ByteArray} {pc : Nat} {lm : Array Slot} {B : Nat} {xa : Nat → Option Nat} {D : va_G} {cT : Nat → ClassId} {w : MjW} {rest : List Value} {sc : List Int32}
set_option maxHeartbeats 2000000 in
theorem mj_copy (hx : p.tables.exec = Jvm.exec) (hb : c.code = cc) (hml : c.maxLocals = lm.size) {own : String} {index : Nat} (hown : s.vm.findClass own = some m.cls) (hlink : (Cond.methodLink own index arraycopyName).before args s = true) (hnat : (Cond.native arraycopyName).before args s = true) (hstat : (Cond.static arraycopyName).before args s = true) (hini : (Cond.initialized "java/lang/System").before args s = true)
    (hK : mjK D cT s) (hP : mjP D cT B xa H0 w H) {a0 a1 : Nat} {vs0 vs1 : List Value} (ha0 : w[a0]? = some (100, vs0)) (ha1 : w[a1]? = some (100, vs1)) {sp dp n : Int32} (h1 : ¬ sp < 0) (h2 : ¬ dp < 0) (h3 : ¬ n < 0) (h4 : sp.toNatClampNeg + n.toNatClampNeg ≤ vs0.length) (h5 : dp.toNatClampNeg + n.toNatClampNeg ≤ vs1.length) (hI : vs0.all mjIsI = true)
    (hframes : 1 ≤ R.frames) (hlocals : (rest.map fun v => v.category).sum + (nativeFrameWords "java/lang/System" "arraycopy" 5 + 11) ≤ R.locals) (hd : decode cc pc = .ok (.invokestatic index, 3))
    (kk : ∀ (H1 : Heap), mjP D cT B xa H0 (w.set a1 (100, mjCpy vs0 vs1 sp.toNatClampNeg dp.toNatClampNeg n.toNatClampNeg)) H1 → ∀ locs1 : List Loc, (∀ q ∈ locs1, q ∈ locs ∨ B ≤ q.base) → W p l e R s m args below meth c H1 locs1 cells slots Q (F0 m (pc + 3) lm rest)) : W p l e R s m args below meth c H locs cells slots Q (F0 m pc lm (.int n :: .int dp :: .ref (B + a1) :: .int sp :: .ref (B + a0) :: rest)) := by
  have nn : ∀ z : Int32, ¬ z < 0 → z.toInt = (z.toNatClampNeg : Int) := by
    intro z hz
    have hz0 : (0 : Int) ≤ z.toInt := by
      have := Int32.not_lt.mp hz
      simpa using Int32.le_iff_toInt_le.mp this
    show z.toInt = ((z.toInt.toNat : Nat) : Int)
    omega
  intro T hT X
  have hc0 := hP.arr ha0 (by decide)
  have hc1 := hP.arr ha1 (by decide)
  obtain ⟨-, k0, hk0, cm0, hkk0⟩ := (hK.arr (k := 100) (Or.inl rfl)).1 vs0.length (fun j => mjTr B xa (vs0.getD j .null))
  obtain ⟨-, k1, hk1, cm1, hkk1⟩ := (hK.arr (k := 100) (Or.inl rfl)).1 vs1.length (fun j => mjTr B xa (vs1.getD j .null))
  obtain ⟨vm', X', step⟩ := X.arraycopy hx hown hlink hnat hstat hini (src := B + a0) (dst := B + a1) (cs := arrV (cT 100) vs0.length (fun j => mjTr B xa (vs0.getD j .null))) (cd := arrV (cT 100) vs1.length (fun j => mjTr B xa (vs1.getD j .null))) (srcPos := sp) (destPos := dp) (n := n) (by rw [hT]; exact hc0) (by rw [hT]; exact hc1)
    (fun _ h => by cases h) (fun _ h => by cases h) (fun h => by cases h) (fun h => by cases h) hk0 hk1 hkk0 hkk1 (by simp [mjAT, refKind]) h1 h2 h3
    (by rw [nn sp h1, nn n h3, arrV_size]; omega)
    (by rw [nn dp h2, nn n h3, arrV_size]; omega)
    (fun vm₁ _ i hi => by
      have hlt : sp.toNatClampNeg + i < vs0.length := by omega
      have hm : mjIsI (vs0.getD (sp.toNatClampNeg + i) .null) = true := by
        rw [List.getD_eq_getElem?_getD, List.getElem?_eq_getElem hlt]
        exact List.all_eq_true.mp hI _ (List.getElem_mem hlt)
      have e : ∃ z, (arrV (cT 100) vs0.length (fun j => mjTr B xa (vs0.getD j .null))).slots.getD (sp.toNatClampNeg + i) .null = .int z := by
        rw [Array.getD_eq_getD_getElem?, arrV_read _ _ hlt]
        cases hv : vs0.getD (sp.toNatClampNeg + i) .null with
        | int z => exact ⟨z, by rw [Option.getD_some]; rfl⟩
        | _ => rw [hv] at hm; cases hm
      obtain ⟨z, e⟩ := e
      rw [e]
      exact ⟨rfl, trivial⟩)
    (g := F0 m pc lm (.int n :: .int dp :: .ref (B + a1) :: .int sp :: .ref (B + a0) :: rest)) rfl (by rw [hml]) (rest := rest) rfl (by rw [hb]; exact hd) hframes (by show 2 * 0 + _ + _ ≤ _; omega)
  have e1 : copied (arrV (cT 100) vs0.length (fun j => mjTr B xa (vs0.getD j .null))) (arrV (cT 100) vs1.length (fun j => mjTr B xa (vs1.getD j .null))) sp dp n = arrV (cT 100) vs1.length (va_cpy (fun j => mjTr B xa (vs0.getD j .null)) (fun j => mjTr B xa (vs1.getD j .null)) sp.toNatClampNeg dp.toNatClampNeg n.toNatClampNeg) := va_copied (fun z => z) (cT 100) (cT 100) _ _ h4
  rw [e1] at X' step
  have hl : B + a1 < H.size := (Array.getElem?_eq_some_iff.mp hc1).1
  have hheap : ((T.setVm vm').setCell (B + a1) (arrV (cT 100) vs1.length (va_cpy (fun j => mjTr B xa (vs0.getD j .null)) (fun j => mjTr B xa (vs1.getD j .null)) sp.toNatClampNeg dp.toNatClampNeg n.toNatClampNeg))).heap = H.setIfInBounds (B + a1) (arrV (cT 100) vs1.length (va_cpy (fun j => mjTr B xa (vs0.getD j .null)) (fun j => mjTr B xa (vs1.getD j .null)) sp.toNatClampNeg dp.toNatClampNeg n.toNatClampNeg)) := by rw [← hT]; rfl
  obtain ⟨t, b1, b2⟩ := kk _ (hP.set ha1 (H1 := H.setIfInBounds (B + a1) (arrV (cT 100) vs1.length (va_cpy (fun j => mjTr B xa (vs0.getD j .null)) (fun j => mjTr B xa (vs1.getD j .null)) sp.toNatClampNeg dp.toNatClampNeg n.toNatClampNeg))) (by
      unfold mjAt
      rw [if_neg (show ¬ 100 < 100 by decide)]
      show _ = some (arrV (cT 100) (mjCpy vs0 vs1 sp.toNatClampNeg dp.toNatClampNeg n.toNatClampNeg).length (fun j => mjTr B xa ((mjCpy vs0 vs1 sp.toNatClampNeg dp.toNatClampNeg n.toNatClampNeg).getD j .null)))
      rw [mjCpy_get h4 h5, mjCpy_len h4 h5]
      simp [Array.getElem?_setIfInBounds, hl]) (by simp) (fun q hq => by simp [Array.getElem?_setIfInBounds, Ne.symm hq])) _ (fun q hq => by
      rcases List.mem_append.mp hq with h | h
      · exact Or.inl h
      · obtain ⟨z, -, hz⟩ := List.mem_map.mp h
        rw [← hz]
        exact Or.inr (Nat.le_add_right B a1)) _ hheap X'
  exact ⟨t, step t b1, b2⟩
theorem mjNfw : nativeFrameWords "java/lang/System" "arraycopy" 5 = 7 := by decide +kernel
set_option maxHeartbeats 2000000 in
theorem mj_simPr (hx : p.tables.exec = Jvm.exec) (hb : c.code = cc) {own : String} {ins : Instr} {inf : List Nat} {st st1 : List Value} {w1 : MjW} (h : mjPr ins inf st w = some (st1, w1)) (ho : mjOkPr own ins inf = true) (hts : ∀ w ∈ mjAll, w.before args s = true) (hown : s.vm.findClass own = some m.cls) (hml : c.maxLocals = lm.size) (hK : mjK D cT s) (hP : mjP D cT B xa H0 w H)
    (hframes : 1 ≤ R.frames) (hlocals : 64 ≤ R.locals) (hcells : cells ≤ R.cells) (hslots : slots ≤ R.slots) (hd : decode cc pc = .ok (ins, 3))
    (kk : ∀ (H1 : Heap), mjP D cT B xa H0 w1 H1 → ∀ locs1 : List Loc, (∀ q ∈ locs1, q ∈ locs ∨ B ≤ q.base) → W p l e R s m args below meth c H1 locs1 cells slots Q (F0 m (pc + 3) lm (st1.map (mjTr B xa)))) : W p l e R s m args below meth c H locs cells slots Q (F0 m pc lm (st.map (mjTr B xa))) := by
  have hself := fun (hP : mjP D cT B xa H0 w H) => kk
  unfold mjPr at h
  split at h
  · rename_i idx
    split at h
    · split at h
      · rename_i a r
        split at h
        · rename_i hr
          cases h
          unfold mjOkPr at ho; simp only at ho
          split at ho
          · simp only [Bool.and_eq_true] at ho
            have hcr := mjCat_tr B xa st1
            refine W.objInit hx hb hown (hts _ (mjHas_in ho.1)) (hts _ (mjHas_in ho.2.1)) (hts _ (mjHas_in ho.2.2)) rfl hml.symm rfl hd hframes ?_ (kk H hP locs (fun q hq => Or.inl hq))
            show 2 * 0 + _ + 12 ≤ R.locals
            omega
          · cases ho
        · cases h
      · cases h
    · cases h
  · rename_i idx
    split at h
    · split at h
      · rename_i y x r
        split at h
        · rename_i hr
          cases h
          unfold mjOkPr at ho; simp only at ho
          split at ho
          · simp only [Bool.and_eq_true] at ho
            have hcr := mjCat_tr B xa r
            exact va_mmax hx hb hml hown (hts _ (mjHas_in ho.1)) (hts _ (mjHas_in ho.2.1)) (hts _ (mjHas_in ho.2.2.1)) (hts _ (mjHas_in ho.2.2.2)) hframes (by rw [hcr]; omega) hcells hslots hd (kk H hP locs (fun q hq => Or.inl hq))
          · rename_i heq; cases heq
          · rename_i heq; cases heq
          · cases ho
        · cases h
      · cases h
    · split at h
      · rename_i y x r
        split at h
        · rename_i hr
          cases h
          unfold mjOkPr at ho; simp only at ho
          split at ho
          · rename_i heq; cases heq
          · simp only [Bool.and_eq_true] at ho
            have hcr := mjCat_tr B xa r
            exact va_mmin hx hb hml hown (hts _ (mjHas_in ho.1)) (hts _ (mjHas_in ho.2.1)) (hts _ (mjHas_in ho.2.2.1)) (hts _ (mjHas_in ho.2.2.2)) hframes (by rw [hcr]; omega) hcells hslots hd (kk H hP locs (fun q hq => Or.inl hq))
          · rename_i heq; cases heq
          · cases ho
        · cases h
      · cases h
    · split at h
      · rename_i n dp a1 sp a0 r
        split at h
        · rename_i k0 vs0 k1 vs1 hw0 hw1
          split at h
          · rename_i hc
            obtain ⟨rfl, rfl, c1, c2, c3, c4, c5, c6, c7⟩ := hc
            cases h
            unfold mjOkPr at ho; simp only at ho
            split at ho
            · rename_i heq; cases heq
            · rename_i heq; cases heq
            · simp only [Bool.and_eq_true] at ho
              have hcr := mjCat_tr B xa st1
              exact mj_copy hx hb hml hown (hts _ (mjHas_in ho.1)) (hts _ (mjHas_in ho.2.2.2)) (hts _ (mjHas_in ho.2.1)) (hts _ (mjHas_in ho.2.2.1)) hK hP hw0 hw1 c1 c2 c3 c4 c5 c6 hframes (by rw [hcr, mjNfw]; omega) hd kk
            · cases ho
          · cases h
        · cases h
      · cases h
    · cases h
  · cases h
theorem mj_call {mc ms : Nat} {st0 : List Value} {Qa : State → Outcome → State → Prop} {free : Addr → Prop} (hr : va_Run p l e R s m args below meth c H locs cells slots mc ms (F0 m pc lm st0) rest Qa free)
    (kk : ∀ (v : Option Value) (t0 t : State) (H1 : Heap) (L : List Loc), t0.heap = H → t.heap = H1 → Qa t0 (.returned v) t → (∀ q ∈ L, free q.base) → W p l e R s m args below meth c H1 (locs ++ L) (cells + mc) (slots + ms) Q (F0 m (pc + 3) lm (v.toList ++ rest))) : W p l e R s m args below meth c H locs cells slots Q (F0 m pc lm st0) := by
  intro T hT X
  obtain ⟨v, st₀, t, T', L, h0, X', hL, e1, e2, hq, st⟩ := hr T hT X
  obtain ⟨t2, a1, b1⟩ := kk v st₀ t T'.heap L h0 e1.symm hq hL T' rfl X'
  exact ⟨t2, st t2 a1, b1⟩
def mjWs (M : MjM) : List Cond := Cond.code M.1 M.2.1 M.2.2.1 M.2.2.2.1 :: mjAll
theorem mjGood : GoodIn mjAll mjAll := fun w hw => ⟨hw, good_of_word (List.mem_filter.mp hw).2⟩
theorem mjGoodWs {M : MjM} (h : Cond.code M.1 M.2.1 M.2.2.1 M.2.2.2.1 ∈ mjAll) : GoodIn mjAll (mjWs M) := fun w hw => (List.mem_cons.mp hw).elim (fun e => by rw [e]; exact mjGood _ h) (fun h2 => mjGood _ h2)
def mjRm (d mc ms : Nat) : Room := { frames := d, cells := mc, slots := ms, locals := 64 * d }
def mjPc (D : va_G) (cT : Nat → ClassId) (B : Nat) (xa : Nat → Option Nat) (sc : List Int32) (H0 : Heap) (w : MjW) (as : List Value) : Array Value → State → Prop := va_Pc (as.map (mjTr B xa)) (fun U => mjP D cT B xa H0 w U.heap ∧ mjK D cT U ∧ mjE B xa sc H0 U)
def mjQc (D : va_G) (cT : Nat → ClassId) (B : Nat) (xa : Nat → Option Nat) (H0 : Heap) (r : Option Value) (w : MjW) : Array Value → State → Outcome → State → Prop := fun _ _ oc t => oc = .returned (r.map (mjTr B xa)) ∧ mjP D cT B xa H0 w t.heap
theorem mjPc_blind {D : va_G} {cT : Nat → ClassId} {B : Nat} {xa : Nat → Option Nat} {sc : List Int32} {H0 : Heap} {w : MjW} {as : List Value} : FrameBlind (mjPc D cT B xa sc H0 w as) := by
  intro a U g mk h
  obtain ⟨h1, h2, h3, h4⟩ := h
  exact ⟨h1, h2, mjK.same (s := U) (U := U.calling g mk a) rfl h3, mjE.same (s := U) (U := U.calling g mk a) rfl h4⟩
end MjC
end
section
/-! ===== the small machine's run, and that the machine does the same ===== -/
abbrev MjI : Type := Instr × Nat × Nat × List Nat
def mjSz (w : MjW) : Nat := (w.map (fun q : Nat × List Value => q.2.length)).sum
def mjOne (sc : List Int32) (rt : Option FieldType) (d : Nat) (q : MjI) (pc : Nat) (ls : MjL) (st : List Value) (w : MjW) : Option MjO := match q.2.2.1 with
  | 0 => match mjA q.1 st with | some st1 => some (.inl (pc + 1, ls, st1, w)) | none => none
  | 1 => match mjLd q.1 ls with | some v => some (.inl (pc + v.2, ls, v.1 :: st, w)) | none => none
  | 2 => match mjSo q.1 ls st with | some v => some (.inl (pc + v.2.2, v.1, v.2.1, w)) | none => none
  | 3 => match mjBr q.1 q.2.2.2 pc st with | some v => some (.inl (v.1, ls, v.2, w)) | none => none
  | 4 => match mjH q.1 q.2.2.2 st w with | some v => some (.inl (pc + v.2.2, ls, v.1, v.2.1)) | none => none
  | 5 => match mjPu q.1 q.2.2.2 with | some v => some (.inl (pc + v.2, ls, v.1 :: st, w)) | none => none
  | 6 => match mjC q.1 q.2.2.2 st w with | some v => some (.inr (.inr (v.1, v.2.1, (pc + 3, ls, v.2.2, w)))) | none => none
  | 7 => match d with | 0 => none | _ + 1 => (match mjPr q.1 q.2.2.2 st w with | some v => some (.inl (pc + 3, ls, v.1, v.2)) | none => none)
  | 8 => match mjRt q.1 rt st with | some v => some (.inr (.inl (v, w))) | none => none
  | 9 => match mjX sc q.1 q.2.2.2 st with | some v => some (.inl (pc + v.2, ls, v.1, w)) | none => none
  | _ => none
def mjEnc (as : List Value) : MjL := as.flatMap (fun v => if v.category = 2 then [some v, none] else [some v])
def mjEntry (mL : Nat) (as : List Value) : MjL := mjEnc as ++ List.replicate (mL - (mjEnc as).length) none
abbrev MjT : Type := Nat → Nat → Nat → MjL → List Value → MjW → Option (Option Value × MjW)
/-- one instruction, and what is behind it by ih -/
def mjExS (tb : Nat → Nat → Option MjI) (mt : Nat → Option MjM) (sc : List Int32) (ih : MjT) (d y pc : Nat) (ls : MjL) (st : List Value) (w : MjW) : Option (Option Value × MjW) :=
  match mt y with
  | none => none
  | some M => match tb y pc with
    | none => none
    | some q => match mjOne sc M.2.2.2.1 d q pc ls st w with
      | none => none
      | some (.inl f) => ih d y f.1 f.2.1 f.2.2.1 f.2.2.2
      | some (.inr (.inl r)) => some r
      | some (.inr (.inr g)) => match d with
        | 0 => none
        | d1 + 1 => match mt g.1 with
          | none => none
          | some M1 => if (mjEnc g.2.1).length ≤ M1.2.2.1 then (match ih d1 g.1 0 (mjEntry M1.2.2.1 g.2.1) [] w with
            | none => none
            | some r => ih (d1 + 1) y g.2.2.1 g.2.2.2.1 (r.1.toList ++ g.2.2.2.2.1) r.2) else none
/-- fuel, depth, method, program counter, locals, stack, world -/
noncomputable def mjEx (tb : Nat → Nat → Option MjI) (mt : Nat → Option MjM) (sc : List Int32) (n : Nat) : MjT :=
  Nat.rec (fun _ _ _ _ _ _ => none) (fun _ ih d y pc ls st w => mjExS tb mt sc ih d y pc ls st w) n
theorem mjEx_succ (tb : Nat → Nat → Option MjI) (mt : Nat → Option MjM) (sc : List Int32) (n d y pc : Nat) (ls : MjL) (st : List Value) (w : MjW) : mjEx tb mt sc (n + 1) d y pc ls st w = mjExS tb mt sc (mjEx tb mt sc n) d y pc ls st w := rfl
def mjLen (ins : Instr) : Nat := match ins with
  | .iload _ => 2 | .lload _ => 2 | .aload _ => 2 | .istore _ => 2 | .astore _ => 2 | .iinc _ _ => 3 | .bipush _ => 2 | .sipush _ => 3 | .ldc _ => 2 | .ldc_w _ => 3 | .ldc2_w _ => 3 | .getfield _ => 3 | .putfield _ => 3 | .getstatic _ => 3 | .new _ => 3 | .newarray _ => 2 | .anewarray _ => 3 | .invokevirtual _ => 3 | .invokestatic _ => 3 | .invokespecial _ => 3 | _ => 1
theorem mjA_len {ins : Instr} {st st1 : List Value} (h : mjA ins st = some st1) : mjLen ins = 1 := by
  unfold mjA at h
  split at h <;> first | rfl | cases h
theorem mjLd_len {ins : Instr} {ls : MjL} {v : Value × Nat} (h : mjLd ins ls = some v) : v.2 = mjLen ins := by
  unfold mjLd at h
  split at h <;> (try split at h) <;> (try split at h) <;> first | cases h; rfl | cases h
theorem mjSo_len {ins : Instr} {ls : MjL} {st : List Value} {v : MjL × List Value × Nat} (h : mjSo ins ls st = some v) : v.2.2 = mjLen ins := by
  unfold mjSo at h
  split at h <;> (try split at h) <;> (try split at h) <;> first | (obtain ⟨q, -, e⟩ := Option.map_eq_some_iff.mp h; cases e; rfl) | cases h
theorem mjPu_len {ins : Instr} {inf : List Nat} {v : Value × Nat} (h : mjPu ins inf = some v) : v.2 = mjLen ins := by
  unfold mjPu at h
  split at h <;> (try split at h) <;> (try split at h) <;> first | cases h; rfl | cases h
theorem mjX_len {sc : List Int32} {ins : Instr} {inf : List Nat} {st : List Value} {v : List Value × Nat} (h : mjX sc ins inf st = some v) : v.2 = mjLen ins := by
  unfold mjX at h
  split at h <;> (try split at h) <;> (try split at h) <;> (try split at h) <;> first | cases h; rfl | cases h
set_option maxHeartbeats 1000000 in
theorem mjH_len {ins : Instr} {inf : List Nat} {st : List Value} {w : MjW} {v : List Value × MjW × Nat} (h : mjH ins inf st w = some v) : v.2.2 = mjLen ins ∧ w.length ≤ v.2.1.length ∧ mjSz w ≤ mjSz v.2.1 := by
  have hset : ∀ {a k k2 : Nat} {vs vs2 : List Value}, w[a]? = some (k, vs) → vs2.length = vs.length → w.length ≤ (w.set a (k2, vs2)).length ∧ mjSz w ≤ mjSz (w.set a (k2, vs2)) := by
    intro a k k2 vs vs2 ha hl
    refine ⟨by rw [List.length_set]; exact Nat.le_refl _, ?_⟩
    have e : (w.set a (k2, vs2)).map (fun q : Nat × List Value => q.2.length) = w.map (fun q : Nat × List Value => q.2.length) := by
      apply List.ext_getElem?
      intro i
      rw [List.getElem?_map, List.getElem?_map, List.getElem?_set]
      by_cases h9 : a = i
      · subst h9
        rw [if_pos rfl, if_pos (List.getElem?_eq_some_iff.mp ha).1, ha]
        exact congrArg some hl
      · rw [if_neg h9]
    unfold mjSz
    rw [e]
    exact Nat.le_refl _
  have hpush : ∀ q, w.length ≤ (w ++ [q]).length ∧ mjSz w ≤ mjSz (w ++ [q]) := by
    intro q
    refine ⟨by rw [List.length_append]; omega, ?_⟩
    unfold mjSz
    rw [List.map_append, List.sum_append]; omega
  unfold mjH at h
  split at h <;> (try split at h) <;> (try split at h) <;> (try split at h) <;> (try split at h) <;> (try split at h) <;> first
    | (cases h; exact ⟨rfl, Nat.le_refl _, Nat.le_refl _⟩)
    | (cases h; exact ⟨rfl, hpush _⟩)
    | (cases h; refine ⟨rfl, hset (by assumption) ?_⟩; rw [List.length_set])
    | (rename_i hv; cases h; obtain ⟨-, -, rfl⟩ := mjWr_ok hv; refine ⟨rfl, hset (by assumption) ?_⟩; rw [List.length_set])
    | cases h
theorem mjPr_len {ins : Instr} {inf : List Nat} {st : List Value} {w : MjW} {v : List Value × MjW} (h : mjPr ins inf st w = some v) : mjLen ins = 3 ∧ w.length = v.2.length ∧ mjSz w = mjSz v.2 := by
  unfold mjPr at h
  split at h
  · split at h
    · split at h
      · split at h
        · cases h; exact ⟨rfl, rfl, rfl⟩
        · cases h
      · cases h
    · cases h
  · split at h
    · split at h
      · split at h
        · cases h; exact ⟨rfl, rfl, rfl⟩
        · cases h
      · cases h
    · split at h
      · split at h
        · cases h; exact ⟨rfl, rfl, rfl⟩
        · cases h
      · cases h
    · split at h
      · split at h
        · rename_i hw0 hw1
          split at h
          · rename_i hc
            cases h
            refine ⟨rfl, by rw [List.length_set], ?_⟩
            unfold mjSz
            congr 1
            apply List.ext_getElem?
            intro i
            rw [List.getElem?_map, List.getElem?_map, List.getElem?_set]
            split
            · rename_i e9
              subst e9
              rw [if_pos (List.getElem?_eq_some_iff.mp hw1).1, hw1]
              exact congrArg some (mjCpy_len hc.2.2.2.2.2.1 hc.2.2.2.2.2.2.1).symm
            · rfl
          · cases h
        · cases h
      · cases h
    · cases h
  · cases h
section MjR
variable {tb : Nat → Nat → Option MjI} {mt : Nat → Option MjM} {sc : List Int32}
theorem mjEx_mono : ∀ (n d y pc : Nat) (ls : MjL) (st : List Value) (w : MjW) (r : Option Value) (w1 : MjW), mjEx tb mt sc n d y pc ls st w = some (r, w1) → w.length ≤ w1.length ∧ mjSz w ≤ mjSz w1 := by
  intro n
  induction n with
  | zero => intro d y pc ls st w r w1 h; cases h
  | succ n ih =>
    intro d y pc ls st w r w1 h
    rw [mjEx_succ] at h
    unfold mjExS at h
    split at h
    · cases h
    · split at h
      · cases h
      · rename_i q hq
        split at h
        · cases h
        · rename_i f hf
          have h1 := ih _ _ _ _ _ _ _ _ h
          have h2 : w.length ≤ f.2.2.2.length ∧ mjSz w ≤ mjSz f.2.2.2 := by
            unfold mjOne at hf
            split at hf <;> (try split at hf) <;> (try split at hf) <;> first
              | (cases hf; exact ⟨Nat.le_refl _, Nat.le_refl _⟩)
              | (rename_i hv; cases hf; exact (mjH_len hv).2)
              | (rename_i hv; cases hf; exact ⟨Nat.le_of_eq (mjPr_len hv).2.1, Nat.le_of_eq (mjPr_len hv).2.2⟩)
              | cases hf
          exact ⟨Nat.le_trans h2.1 h1.1, Nat.le_trans h2.2 h1.2⟩
        · rename_i r0 hf
          unfold mjOne at hf
          split at hf <;> (try split at hf) <;> (try split at hf) <;> first
            | (cases hf; cases h; exact ⟨Nat.le_refl _, Nat.le_refl _⟩)
            | cases hf
        · rename_i g hf
          split at h
          · cases h
          · split at h
            · cases h
            · split at h
              · split at h
                · cases h
                · rename_i r1 hr1
                  have h1 := ih _ _ _ _ _ _ _ _ hr1
                  have h2 := ih _ _ _ _ _ _ _ _ h
                  exact ⟨Nat.le_trans h1.1 h2.1, Nat.le_trans h1.2 h2.2⟩
              · cases h
end MjR
end
section
/-! ===== the machine does what the small machine does ===== -/
def mjIsInit (M : MjM) : Bool := decide (M.1.name = "<init>")
/-- a row of the table is the code's own, and the tables have its words -/
def mjOk (mt : Nat → Option MjM) (M : MjM) (q : MjI) (pc : Nat) : Bool := match q.2.2.1 with
  | 0 => Nat.beq q.2.1 1
  | 1 => Nat.beq q.2.1 (mjLen q.1)
  | 2 => Nat.beq q.2.1 (mjLen q.1)
  | 3 => mjOkB q.1 q.2.1 q.2.2.2 pc
  | 4 => Nat.beq q.2.1 (mjLen q.1) && mjOkH M.1.cls (mjIsInit M) q.1 q.2.1 q.2.2.2
  | 5 => Nat.beq q.2.1 (mjLen q.1) && mjOkPu M.1.cls q.1 q.2.2.2
  | 6 => Nat.beq q.2.1 3 && mjOkC mt M.1.cls q.1 q.2.2.2
  | 7 => Nat.beq q.2.1 3 && mjOkPr M.1.cls q.1 q.2.2.2
  | 8 => Nat.beq q.2.1 1
  | 9 => Nat.beq q.2.1 (mjLen q.1) && mjOkX M.1.cls q.1 q.2.2.2
  | _ => true
theorem mjEnc_sl (B : Nat) (xa : Nat → Option Nat) : ∀ (as : List Value), lg_sl (as.map (mjTr B xa)) = (mjEnc as).map (fun o => match o with | some v => Slot.val (mjTr B xa v) | none => Slot.second)
  | [] => rfl
  | v :: as => by
    have ih := mjEnc_sl B xa as
    unfold lg_sl mjEnc at ih ⊢
    rw [List.map_cons, List.flatMap_cons, List.flatMap_cons, ih, List.map_append, mjTr_cat]
    congr 1
    split <;> rfl
theorem mjEntry_lr {B : Nat} {xa : Nat → Option Nat} {mL : Nat} {as : List Value} (h : (mjEnc as).length ≤ mL) : mjLr B xa mL (mjEntry mL as) ((lg_sl (as.map (mjTr B xa)) ++ List.replicate (mL - (lg_sl (as.map (mjTr B xa))).length) Slot.unset).toArray) := by
  have e := mjEnc_sl B xa as
  have hl : (lg_sl (as.map (mjTr B xa))).length = (mjEnc as).length := by rw [e, List.length_map]
  have hh := lv_entry (as.map (mjTr B xa)) (n := mL) (by rw [hl]; exact h)
  refine ⟨hh.1, ?_, hh.2.1, fun i v hi => ?_⟩
  · unfold mjEntry
    rw [List.length_append, List.length_replicate]
    omega
  · unfold mjEntry at hi
    rw [List.getElem?_toArray]
    by_cases hlt : i < (mjEnc as).length
    · rw [List.getElem?_append_left hlt] at hi
      rw [List.getElem?_append_left (by rw [hl]; exact hlt), e, List.getElem?_map, hi]
      rfl
    · rw [List.getElem?_append_right (by omega), List.getElem?_replicate] at hi
      split at hi <;> cases hi
theorem mj_stack {B : Nat} {xa : Nat → Option Nat} {n : Nat} {st : List Value} : st.map (mjTr B xa) = ((st.take n).reverse.map (mjTr B xa)).reverse ++ (st.drop n).map (mjTr B xa) := by
  rw [List.map_reverse, List.reverse_reverse, ← List.map_append, List.take_append_drop]
section MjSim
variable {tb : Nat → Nat → Option MjI} {mt : Nat → Option MjM} {sc : List Int32} {l : Launch} {D : va_G} {cT : Nat → ClassId} {B : Nat} {xa : Nat → Option Nat} {H0 : Heap}
/-- what a run's end is, by its return -/
abbrev MjKret (p : Program) (l : Launch) (e : Env) (R : Room) (s : State) (m : MethodId) (args : Array Value) (below : List Frame) (meth : Method) (c : Code) (D : va_G) (cT : Nat → ClassId) (B : Nat) (xa : Nat → Option Nat) (H0 : Heap) (M : MjM) (r : Option Value) (w1 : MjW) (cells slots : Nat) (Q : State → Prop) : Prop :=
  ∀ (H1 : Heap) (locs1 : List Loc) (lm1 : Array Slot) (pc1 : Nat) (ins1 : Instr) (st1 : List Value), mjP D cT B xa H0 w1 H1 → (∀ q ∈ locs1, B ≤ q.base) → decode M.2.1 pc1 = .ok (ins1, 1) → mjRt ins1 M.2.2.2.1 st1 = some r → W p l e R s m args below meth c H1 locs1 cells slots Q (F0 m pc1 lm1 (st1.map (mjTr B xa)))
abbrev MjSimAt (tb : Nat → Nat → Option MjI) (mt : Nat → Option MjM) (sc : List Int32) (l : Launch) (D : va_G) (cT : Nat → ClassId) (B : Nat) (xa : Nat → Option Nat) (H0 : Heap) (n : Nat) : Prop :=
  ∀ (d y pc : Nat) (ls : MjL) (st : List Value) (w : MjW) (r : Option Value) (w1 : MjW), mjEx tb mt sc n d y pc ls st w = some (r, w1) → ∀ M : MjM, mt y = some M →
  ∀ (p : Program) (e : Env) (R : Room) (s : State) (m : MethodId) (args : Array Value) (below : List Frame) (meth : Method) (c : Code) (H : Heap) (locs : List Loc) (cells slots : Nat) (Q : State → Prop) (lm : Array Slot),
    p.tables.exec = Jvm.exec → c.code = M.2.1 → c.maxLocals = M.2.2.1 → s.vm.findClass M.1.cls = some m.cls → (∀ w ∈ mjAll, w.before args s = true) → (mjIsInit M = true → meth.name = "<init>") →
    d ≤ R.frames → 64 * d ≤ R.locals → cells + (w1.length - w.length) ≤ R.cells → slots + (mjSz w1 - mjSz w) ≤ R.slots →
    mjK D cT s → mjE B xa sc H0 s → mjS B H0 s H locs → mjP D cT B xa H0 w H → mjLr B xa M.2.2.1 ls lm →
    MjKret p l e R s m args below meth c D cT B xa H0 M r w1 (cells + (w1.length - w.length)) (slots + (mjSz w1 - mjSz w)) Q →
    W p l e R s m args below meth c H locs cells slots Q (F0 m pc lm (st.map (mjTr B xa)))
theorem mj_met {n : Nat} (ih : MjSimAt tb mt sc l D cT B xa H0 n) {d y : Nat} {M : MjM} (hM : mt y = some M) (okM : Cond.code M.1 M.2.1 M.2.2.1 M.2.2.2.1 ∈ mjAll ∧ plainName M.1.cls = true) {as : List Value} (hlen : (mjEnc as).length ≤ M.2.2.1) {w w1 : MjW} {r : Option Value} (h : mjEx tb mt sc n d y 0 (mjEntry M.2.2.1 as) [] w = some (r, w1)) :
    Met l M.1 (mjWs M) (mjRm d (w1.length - w.length) (mjSz w1 - mjSz w)) (mjPc D cT B xa sc H0 w as) (mjQc D cT B xa H0 r w1) (w1.length - w.length) (mjSz w1 - mjSz w) (fun q => B ≤ q) := by
  refine Met.ofW (cc := M.2.1) (maxL := M.2.2.1) (ret := M.2.2.2.1) okM.2 rfl ?_
  intro p e s m args below meth c s₁ Bd hml hv
  obtain ⟨rfl, hP, hK, hE⟩ := hv
  have hts := atoms_spec (ws := mjWs M) Bd.pre
  rw [lg_entry_eq]
  have hlocks := Bd.notSynchronized
  have hr := Bd.returns
  refine ih d y 0 _ [] w r w1 h M hM p e _ s m _ below meth c s.heap [] 0 0 _ _ Bd.exec Bd.bytes hml (findClass_of_methodNamed Bd.named) (fun q hq => hts q (List.mem_cons_of_mem _ hq)) (fun hi => ?_) (Nat.le_refl _) (Nat.le_refl _) (by rw [Nat.zero_add]; exact Nat.le_refl _) (by rw [Nat.zero_add]; exact Nat.le_refl _) hK hE ⟨Nat.le_refl _, hP.2.1, hP.2.1, fun q hq => by cases hq⟩ hP (mjEntry_lr hlen) ?_
  · have := (name_of_methodNamed Bd.named Bd.method).1
    rw [this]
    simpa [mjIsInit] using hi
  · intro H1 locs1 lm1 pc1 ins1 st1 hP1 hl1 hd1 hrt
    rw [Nat.zero_add, Nat.zero_add]
    unfold mjRt at hrt
    split at hrt
    · split at hrt
      · split at hrt
        · rename_i ty hty
          split at hrt
          · rename_i hn
            cases hrt
            exact W.zret Bd.exec Bd.bytes (hr.trans hty) hn (fun t ht hW => ⟨rfl, by rw [ht]; exact hP1⟩) hl1 hd1
          · cases hrt
        · cases hrt
      · cases hrt
    · split at hrt
      · split at hrt
        · rename_i hty
          cases hrt
          exact W.lret Bd.exec Bd.bytes (hr.trans hty) (fun t ht hW => ⟨rfl, by rw [ht]; exact hP1⟩) hl1 hd1
        · cases hrt
      · cases hrt
    · split at hrt
      · split at hrt
        · rename_i ty hty
          cases hrt
          exact W.aret Bd.exec Bd.bytes (hr.trans hty) (Or.inl ⟨_, rfl⟩) (Or.inr ⟨_, rfl⟩) (fun t ht hW => ⟨rfl, by rw [ht]; exact hP1⟩) hl1 hd1
        · cases hrt
      · cases hrt
    · split at hrt
      · split at hrt
        · rename_i hty
          cases hrt
          exact W.vret Bd.exec Bd.bytes (hr.trans hty) (fun t ht hW => ⟨rfl, by rw [ht]; exact hP1⟩) hl1 hd1
        · cases hrt
      · cases hrt
    · cases hrt
set_option maxHeartbeats 8000000 in
theorem mj_sim (okM : ∀ (y : Nat) (M : MjM), mt y = some M → Cond.code M.1 M.2.1 M.2.2.1 M.2.2.2.1 ∈ mjAll ∧ plainName M.1.cls = true ∧ M.2.2.1 ≤ 45)
    (okT : ∀ (y : Nat) (M : MjM) (pc : Nat) (q : MjI), mt y = some M → tb y pc = some q → decode M.2.1 pc = .ok (q.1, q.2.1) ∧ mjOk mt M q pc = true) : ∀ n, MjSimAt tb mt sc l D cT B xa H0 n := by
  intro n
  induction n with
  | zero => intro d y pc ls st w r w1 h; cases h
  | succ n ih =>
    intro d y pc ls st w r w1 h M hM p e R s m args below meth c H locs cells slots Q lm hx hb hml hown hts hin hfr hlo hce hsl hK hE hS hP hl kret
    rw [mjEx_succ] at h
    unfold mjExS at h
    rw [hM] at h
    simp only at h
    split at h
    · cases h
    · rename_i q hq
      obtain ⟨hd, ho⟩ := okT y M pc q hM hq
      have grow : ∀ (w2 : MjW) (H2 : Heap) (locs2 : List Loc), mjP D cT B xa H0 w2 H2 → w.length ≤ w2.length → (∀ q ∈ locs2, q ∈ locs ∨ B ≤ q.base) → mjS B H0 s H2 locs2 := by
        intro w2 H2 locs2 hP2 hle hl2
        refine ⟨?_, hS.2.1, hP2.2.1, fun z hz => (hl2 z hz).elim (fun h => hS.2.2.2 z h) id⟩
        have := hS.1
        rw [hP.1] at this
        rw [hP2.1]
        omega
      split at h
      · cases h
      · rename_i f hf
        have mono := mjEx_mono _ _ _ _ _ _ _ _ _ h
        unfold mjOne at hf
        unfold mjOk at ho
        split at hf
        · -- group 0
          rename_i hg
          rw [hg] at ho
          simp only [Nat.beq_eq] at ho
          split at hf
          · rename_i st1 hv
            cases hf
            rw [ho] at hd
            exact mj_simA hx hb hv hd (ih _ _ _ _ _ _ _ _ h M hM p e R s m args below meth c H locs cells slots Q lm hx hb hml hown hts hin hfr hlo hce hsl hK hE hS hP hl kret)
          · cases hf
        · -- group 1
          rename_i hg
          rw [hg] at ho
          simp only [Nat.beq_eq] at ho
          split at hf
          · rename_i v hv
            cases hf
            have hn := mjLd_len hv
            rw [ho, ← hn] at hd
            exact mj_simLd hE.2.1 hx hb hv hl hd (ih _ _ _ _ _ _ _ _ h M hM p e R s m args below meth c H locs cells slots Q lm hx hb hml hown hts hin hfr hlo hce hsl hK hE hS hP hl kret)
          · cases hf
        · -- group 2
          rename_i hg
          rw [hg] at ho
          simp only [Nat.beq_eq] at ho
          split at hf
          · rename_i v hv
            cases hf
            have hn := mjSo_len hv
            rw [ho, ← hn] at hd
            exact mj_simSo hE.2.1 hx hb hv hl hd (fun lm1 hl1 => ih _ _ _ _ _ _ _ _ h M hM p e R s m args below meth c H locs cells slots Q lm1 hx hb hml hown hts hin hfr hlo hce hsl hK hE hS hP hl1 kret)
          · cases hf
        · -- group 3
          rename_i hg
          rw [hg] at ho
          simp only at ho
          split at hf
          · rename_i v hv
            cases hf
            exact mj_simB hx hb hv ho hd (ih _ _ _ _ _ _ _ _ h M hM p e R s m args below meth c H locs cells slots Q lm hx hb hml hown hts hin hfr hlo hce hsl hK hE hS hP hl kret)
          · cases hf
        · -- group 4
          rename_i hg
          rw [hg] at ho
          simp only [Bool.and_eq_true, Nat.beq_eq] at ho
          split at hf
          · rename_i v hv
            obtain ⟨st2, w2, n2⟩ := v
            cases hf
            obtain ⟨hn, g1, g2⟩ := mjH_len hv
            simp only at mono hn g1 g2 h
            have c1 : cells + (w2.length - w.length) + (w1.length - w2.length) = cells + (w1.length - w.length) := by omega
            have c2 : slots + (mjSz w2 - mjSz w) + (mjSz w1 - mjSz w2) = slots + (mjSz w1 - mjSz w) := by omega
            have c3 : cells + (w2.length - w.length) ≤ R.cells := by omega
            have c4 : slots + (mjSz w2 - mjSz w) ≤ R.slots := by omega
            refine mj_simH hx hb hv ho.2 hin (ho.1.trans hn.symm) hd hts hown hK hP c3 c4 (fun H1 hP1 locs1 hl1 => ?_)
            refine ih _ _ _ _ _ _ _ _ h M hM p e R s m args below meth c H1 locs1 (cells + (w2.length - w.length)) (slots + (mjSz w2 - mjSz w)) Q lm hx hb hml hown hts hin hfr hlo (by rw [c1]; exact hce) (by rw [c2]; exact hsl) hK hE (grow _ H1 locs1 hP1 g1 hl1) hP1 hl ?_
            rw [c1, c2]; exact kret
          · cases hf
        · -- group 5
          rename_i hg
          rw [hg] at ho
          simp only [Bool.and_eq_true, Nat.beq_eq] at ho
          split at hf
          · rename_i v hv
            cases hf
            have hn := mjPu_len hv
            rw [ho.1, ← hn] at hd
            exact mj_simPu hx hb hv ho.2 hts hown hE hd (ih _ _ _ _ _ _ _ _ h M hM p e R s m args below meth c H locs cells slots Q lm hx hb hml hown hts hin hfr hlo hce hsl hK hE hS hP hl kret)
          · cases hf
        · -- group 6
          split at hf <;> cases hf
        · -- group 7
          rename_i hg
          rw [hg] at ho
          simp only [Bool.and_eq_true, Nat.beq_eq] at ho
          split at hf
          · cases hf
          · split at hf
            · rename_i v hv
              cases hf
              obtain ⟨-, g1, g2⟩ := mjPr_len hv
              rw [ho.1] at hd
              refine mj_simPr hx hb hv ho.2 hts hown (by rw [hml]; exact hl.1.symm) hK hP (by omega) (by omega) (by omega) (by omega) hd (fun H1 hP1 locs1 hl1 => ih _ _ _ _ _ _ _ _ h M hM p e R s m args below meth c H1 locs1 cells slots Q lm hx hb hml hown hts hin hfr hlo ?_ ?_ hK hE (grow _ H1 locs1 hP1 (Nat.le_of_eq g1) hl1) hP1 hl ?_)
              · rw [← g1]; exact hce
              · rw [← g2]; exact hsl
              · rw [← g1, ← g2]; exact kret
            · cases hf
        · -- group 8
          split at hf <;> cases hf
        · -- group 9
          rename_i hg
          rw [hg] at ho
          simp only [Bool.and_eq_true, Nat.beq_eq] at ho
          split at hf
          · rename_i v hv
            cases hf
            have hn := mjX_len hv
            rw [ho.1, ← hn] at hd
            exact mj_simX hx hb hv ho.2 hts hown hE hS hd (ih _ _ _ _ _ _ _ _ h M hM p e R s m args below meth c H locs cells slots Q lm hx hb hml hown hts hin hfr hlo hce hsl hK hE hS hP hl kret)
          · cases hf
        · cases hf
      · -- a return
        rename_i r0 hf
        unfold mjOne at hf
        unfold mjOk at ho
        split at hf <;> (try (split at hf <;> (try split at hf) <;> cases hf; done))
        · rename_i hg
          rw [hg] at ho
          simp only [Nat.beq_eq] at ho
          split at hf
          · rename_i v hv
            cases hf
            cases h
            have z1 : w.length - w.length = 0 := by omega
            have z2 : mjSz w - mjSz w = 0 := by omega
            have k9 := kret H locs lm pc q.1 st hP hS.2.2.2 (by rw [ho] at hd; exact hd) hv
            rw [z1, z2] at k9
            exact k9
          · cases hf
        · cases hf
      · -- a call
        rename_i g hf
        split at h
        · cases h
        · rename_i d1
          split at h
          · cases h
          · rename_i M1 hM1
            split at h
            · rename_i hlen
              split at h
              · cases h
              · rename_i r1 hr1
                obtain ⟨v1, w2⟩ := r1
                have mono1 := mjEx_mono _ _ _ _ _ _ _ _ _ hr1
                have mono2 := mjEx_mono _ _ _ _ _ _ _ _ _ h
                simp only at mono2 h
                obtain ⟨ok1, ok2, ok3⟩ := okM _ _ hM1
                have met := mj_met ih hM1 ⟨ok1, ok2⟩ hlen hr1
                have hRoom : (mjRm d1 (w2.length - w.length) (mjSz w2 - mjSz w)).frames + 1 ≤ R.frames ∧ 8 + (M1.2.2.1 + 11) + (mjRm d1 (w2.length - w.length) (mjSz w2 - mjSz w)).locals ≤ R.locals := by
                  show d1 + 1 ≤ R.frames ∧ 8 + (M1.2.2.1 + 11) + 64 * d1 ≤ R.locals
                  omega
                have hf6 : cells + (w2.length - w.length) ≤ R.cells ∧ slots + (mjSz w2 - mjSz w) ≤ R.slots := by omega
                have c1 : cells + (w2.length - w.length) + (w1.length - w2.length) = cells + (w1.length - w.length) := by omega
                have c2 : slots + (mjSz w2 - mjSz w) + (mjSz w1 - mjSz w2) = slots + (mjSz w1 - mjSz w) := by omega
                have fin : ∀ (rest : List Value), g.2.2 = (pc + 3, ls, rest, w) → ∀ (as' : Array Value) (st0 : List Value), va_Run p l e R s m args below meth c H locs cells slots (w2.length - w.length) (mjSz w2 - mjSz w) (F0 m pc lm st0) (rest.map (mjTr B xa)) (mjQc D cT B xa H0 v1 w2 as') (fun q => B ≤ q) → W p l e R s m args below meth c H locs cells slots Q (F0 m pc lm st0) := by
                  intro rest hg as' st0 hrun
                  rw [hg] at h
                  refine mj_call hrun (fun v t0 t H1 L h0 h1 hq hL => ?_)
                  obtain ⟨hv, hP1⟩ := hq
                  cases hv
                  rw [h1] at hP1
                  have e9 : (v1.map (mjTr B xa)).toList ++ rest.map (mjTr B xa) = (v1.toList ++ rest).map (mjTr B xa) := by
                    rw [List.map_append]
                    cases v1 <;> rfl
                  rw [e9]
                  refine ih _ _ _ _ _ _ _ _ h M hM p e R s m args below meth c H1 (locs ++ L) _ _ Q lm hx hb hml hown hts hin hfr hlo (by rw [c1]; exact hce) (by rw [c2]; exact hsl) hK hE (grow _ H1 (locs ++ L) hP1 mono1.1 (fun z hz => (List.mem_append.mp hz).imp id (fun h => hL z h))) hP1 hl (by rw [c1, c2]; exact kret)
                unfold mjOne at hf
                unfold mjOk at ho
                split at hf <;> (try (split at hf <;> (try split at hf) <;> cases hf; done))
                · rename_i hg
                  rw [hg] at ho
                  simp only [Bool.and_eq_true, Nat.beq_eq] at ho
                  obtain ⟨ho3, ho⟩ := ho
                  rw [ho3] at hd
                  split at hf
                  · rename_i v hv
                    cases hf
                    unfold mjC at hv
                    split at hv
                    · -- virtual
                      rename_i idx hins
                      split at hv
                      · rename_i y1 n1 ci tl hinf
                        unfold mjOkC at ho
                        rw [hins, hinf] at ho
                        simp only at ho
                        rw [hins] at hd
                        split at ho
                        · rename_i y2 n2 ci2 p1 p2 p3 p4 tl2 heq
                          cases heq
                          split at hv
                          · rename_i b rr hdrop
                            split at hv
                            · rename_i cj fs hwb
                              split at hv
                              · rename_i hc
                                obtain ⟨rfl, hc1, hc2, hc3⟩ := hc
                                cases hv
                                simp only at hM1 hlen met fin
                                rw [hM1] at ho
                                simp only [Bool.and_eq_true, mjDesc, decide_eq_true_eq] at ho
                                obtain ⟨o1, o2, o3, o4, ⟨o5, o6, o7⟩, o8⟩ := ho
                                have hne : Nat.beq cj 200 = false := by
                                  cases hz : Nat.beq cj 200 with
                                  | false => rfl
                                  | true => rw [Nat.beq_eq] at hz; omega
                                rw [hne, cond_false, decide_eq_true_eq] at o8
                                obtain ⟨rc, hrc, hrc2⟩ := Option.map_eq_some_iff.mp o8
                                obtain ⟨rc', hrc', -, cell, q1, q2, q3, -⟩ := hP.obj hwb hc1
                                cases hrc.symm.trans hrc'
                                have hk := (hK.1.1 cj rc hrc).2.1
                                have cat := mjCat_tr B xa rr
                                rw [mj_stack (n := n1) (st := st), hdrop]
                                refine fin rr rfl _ _ (va_runV (As := (st.take n1).reverse.map (mjTr B xa)) (rest := rr.map (mjTr B xa)) (b := B + b) (C := M1.1.cls) ⟨hx, hb, hml, hown, hts⟩ met ⟨callB_of n1 hts (mjGoodWs ok1) rfl rfl rfl (hts _ (mjHas_in o4)) (hts _ (mjHas_in o1)) ⟨o5, o6, o7⟩ hRoom, hts _ (mjHas_in o2), hts _ (mjHas_in o3)⟩ ⟨mjPc_blind, ⟨cell, q1, by rw [q3]; rfl, by rw [← hrc2, q2]; exact hk⟩, fun U hU hW => ⟨rfl, by rw [hU]; exact hP, hK.warm hW, hE.warm hW⟩⟩ rfl (by rw [List.length_map, List.length_reverse, List.length_take]; omega) hl.1 rfl ?_ hd hf6)
                                show 2 * 0 + _ ≤ 8
                                rw [cat]; omega
                              · cases hv
                            · cases hv
                          · rename_i b rr hdrop
                            split at hv
                            · rename_i hc
                              obtain ⟨rfl, hc1, hc2, hc3⟩ := hc
                              cases hv
                              simp only at hM1 hlen met fin
                              rw [hM1] at ho
                              simp only [Bool.and_eq_true, mjDesc, decide_eq_true_eq] at ho
                              obtain ⟨o1, o2, o3, o4, ⟨o5, o6, o7⟩, o8⟩ := ho
                              have hne : Nat.beq 200 200 = true := rfl
                              rw [hne, cond_true, decide_eq_true_eq] at o8
                              obtain ⟨-, -, -, -, ⟨adK, adV, hsk, k2, k3, -, -, -⟩, -⟩ := id hE
                              have tK : mjTr B xa (.retAddr b) = .ref (adK b) := by
                                show va_rf (xa b) = _
                                have : b = 0 ∨ b = 1 := by omega
                                rcases this with rfl | rfl
                                · rw [k2]; rfl
                                · rw [k3]; rfl
                              have hrec := vk_recv (hsk.kept hS.kept) hc1 hS.va
                              have cat := mjCat_tr B xa rr
                              rw [mj_stack (n := n1) (st := st), hdrop, List.map_cons, tK]
                              refine fin rr rfl _ _ (va_runV (As := (st.take n1).reverse.map (mjTr B xa)) (rest := rr.map (mjTr B xa)) (b := adK b) (C := M1.1.cls) ⟨hx, hb, hml, hown, hts⟩ met ⟨callB_of n1 hts (mjGoodWs ok1) rfl rfl rfl (hts _ (mjHas_in o4)) (hts _ (mjHas_in o1)) ⟨o5, o6, o7⟩ hRoom, hts _ (mjHas_in o2), hts _ (mjHas_in o3)⟩ ⟨mjPc_blind, by rw [o8]; exact hrec, fun U hU hW => ⟨by rw [List.map_cons, tK], by rw [hU]; exact hP, hK.warm hW, hE.warm hW⟩⟩ rfl (by rw [List.length_map, List.length_reverse, List.length_take]; omega) hl.1 rfl ?_ hd hf6)
                              show 2 * 0 + _ ≤ 8
                              rw [cat]; omega
                            · cases hv
                          · cases hv
                        · cases ho
                      · cases hv
                    · -- static
                      rename_i idx hins
                      split at hv
                      · rename_i y1 n1 tl hinf
                        unfold mjOkC at ho
                        rw [hins, hinf] at ho
                        simp only at ho
                        rw [hins] at hd
                        split at ho
                        · rename_i y2 n2 k p1 p2 p3 tl2 heq
                          cases heq
                          split at hv
                          · rename_i hc
                            cases hv
                            simp only at hM1 hlen met fin
                            rw [hM1] at ho
                            simp only [Bool.and_eq_true, mjDesc, decide_eq_true_eq] at ho
                            obtain ⟨o1, o2, o3, o5, o6, o7⟩ := ho
                            have cat := mjCat_tr B xa (st.drop n1)
                            rw [mj_stack (n := n1) (st := st)]
                            have hWW : 2 * (F0 m pc lm (((st.take n1).reverse.map (mjTr B xa)).reverse ++ (st.drop n1).map (mjTr B xa))).monitorRoom + (((st.drop n1).map (mjTr B xa)).map fun v => v.category).sum ≤ 8 := by
                              show 2 * 0 + _ ≤ 8
                              rw [cat]; omega
                            cases hk : Nat.beq k 0 with
                            | true =>
                              rw [hk, cond_true] at o1
                              exact fin (st.drop n1) rfl _ _ (va_runS (As := (st.take n1).reverse.map (mjTr B xa)) (rest := (st.drop n1).map (mjTr B xa)) ⟨hx, hb, hml, hown, hts⟩ met ⟨callB_of n1 hts (mjGoodWs ok1) rfl rfl rfl (hts _ (mjHas_in o3)) (hts _ (mjHas_in o1)) ⟨o5, o6, o7⟩ hRoom, hts _ (mjHas_in o2)⟩ ⟨mjPc_blind, fun U hU hW => ⟨rfl, by rw [hU]; exact hP, hK.warm hW, hE.warm hW⟩⟩ rfl (by rw [List.length_map, List.length_reverse, List.length_take]; omega) hl.1 rfl hWW hd hf6)
                            | false =>
                              rw [hk, cond_false] at o1
                              exact fin (st.drop n1) rfl _ _ (va_runSN (As := (st.take n1).reverse.map (mjTr B xa)) (rest := (st.drop n1).map (mjTr B xa)) ⟨hx, hb, hml, hown, hts⟩ met ⟨va_cnB n1 hts (mjGoodWs ok1) rfl rfl rfl (hK.2.1 _ (mjNestHas_in o1)) (hts _ (mjHas_in o3)) ⟨o5, o6, o7⟩ hRoom, hts _ (mjHas_in o2), trivial⟩ ⟨mjPc_blind, fun U hU hW => ⟨rfl, by rw [hU]; exact hP, hK.warm hW, hE.warm hW⟩⟩ rfl (by rw [List.length_map, List.length_reverse, List.length_take]; omega) hl.1 rfl hWW hd hf6)
                          · cases hv
                        · cases ho
                      · cases hv
                    · -- special
                      rename_i idx hins
                      split at hv
                      · rename_i y1 n1 tl hinf
                        unfold mjOkC at ho
                        rw [hins, hinf] at ho
                        simp only at ho
                        rw [hins] at hd
                        split at ho
                        · rename_i y2 n2 k p1 p2 p3 tl2 heq
                          cases heq
                          split at hv
                          · rename_i b rr hdrop
                            split at hv
                            · rename_i hc
                              cases hv
                              simp only at hM1 hlen met fin
                              obtain ⟨nm, bs, mL, rt, pl⟩ := M1
                              rw [hM1] at ho
                              simp only [Bool.and_eq_true, mjDesc, decide_eq_true_eq] at ho
                              obtain ⟨o1, o2, o3, ⟨o5, o6, o7⟩, o8, rfl⟩ := ho
                              have cat := mjCat_tr B xa rr
                              rw [mj_stack (n := n1) (st := st), hdrop]
                              have hWW : 2 * (F0 m pc lm (((st.take n1).reverse.map (mjTr B xa)).reverse ++ (Value.ref b :: rr).map (mjTr B xa))).monitorRoom + ((rr.map (mjTr B xa)).map fun v => v.category).sum ≤ 8 := by
                                show 2 * 0 + _ ≤ 8
                                rw [cat]; omega
                              cases hk : Nat.beq k 0 with
                              | true =>
                                rw [hk, cond_true] at o1
                                exact fin rr rfl _ _ (va_runI (As := (st.take n1).reverse.map (mjTr B xa)) (rest := rr.map (mjTr B xa)) (b := B + b) ⟨hx, hb, hml, hown, hts⟩ met ⟨callB_of n1 hts (mjGoodWs ok1) rfl rfl rfl (hts _ (mjHas_in o3)) (hts _ (mjHas_in o1)) ⟨o5, o6, o7⟩ hRoom, o8, hts _ (mjHas_in o2)⟩ ⟨mjPc_blind, fun U hU hW => ⟨rfl, by rw [hU]; exact hP, hK.warm hW, hE.warm hW⟩⟩ rfl (by rw [List.length_map, List.length_reverse, List.length_take]; omega) hl.1 rfl hWW hd hf6)
                              | false =>
                                rw [hk, cond_false] at o1
                                exact fin rr rfl _ _ (va_runIN (As := (st.take n1).reverse.map (mjTr B xa)) (rest := rr.map (mjTr B xa)) (b := B + b) ⟨hx, hb, hml, hown, hts⟩ met ⟨va_cnB n1 hts (mjGoodWs ok1) rfl rfl rfl (hK.2.1 _ (mjNestHas_in o1)) (hts _ (mjHas_in o3)) ⟨o5, o6, o7⟩ hRoom, o8, hts _ (mjHas_in o2)⟩ ⟨mjPc_blind, fun U hU hW => ⟨rfl, by rw [hU]; exact hP, hK.warm hW, hE.warm hW⟩⟩ rfl (by rw [List.length_map, List.length_reverse, List.length_take]; omega) hl.1 rfl hWW hd hf6)
                            · cases hv
                          · cases hv
                        · cases ho
                      · cases hv
                    · cases hv
                  · cases hf
                · cases hf
            · cases h
end MjSim
end
