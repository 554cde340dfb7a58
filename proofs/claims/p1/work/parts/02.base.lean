-- ===== PART A: goes FIRST, ahead of the names: the tables' words, and 'selects' of the private methods out of them =====
/-- a private method of a class that the tables say can be made, by its rows of tables_1 -/
def lw_okq (q : MethodName × Nat) : Prop := (q.1.cls ≠ "java/lang/invoke/MethodHandle" ∧ q.1.cls ≠ "java/lang/invoke/VarHandle") ∧ Cond.instantiable q.1.cls q.2 ∈ tables_1 ∧ Cond.privateMethod q.1 ∈ tables_1 ∧ Cond.instanceMethod q.1 ∈ tables_1
theorem lw_p0 : lw_okq (⟨"KindredBooks$Paper", "checkLine", "(LKindredBooks$Text;I)I"⟩, 8) := ⟨⟨by decide +kernel, by decide +kernel⟩, List.mem_of_getElem? (i := 211) (by decide +kernel), List.mem_of_getElem? (i := 404) (by decide +kernel), List.mem_of_getElem? (i := 405) (by decide +kernel)⟩
theorem lw_p1 : lw_okq (⟨"KindredBooks$Paper", "tell", "(II)I"⟩, 8) := ⟨⟨by decide +kernel, by decide +kernel⟩, List.mem_of_getElem? (i := 211) (by decide +kernel), List.mem_of_getElem? (i := 418) (by decide +kernel), List.mem_of_getElem? (i := 419) (by decide +kernel)⟩
theorem lw_p2 : lw_okq (⟨"java/lang/Throwable", "fillInStackTrace", "(I)Ljava/lang/Throwable;"⟩, 6) := ⟨⟨by decide +kernel, by decide +kernel⟩, List.mem_of_getElem? (i := 500) (by decide +kernel), List.mem_of_getElem? (i := 498) (by decide +kernel), List.mem_of_getElem? (i := 499) (by decide +kernel)⟩
theorem lw_p3 : lw_okq (⟨"KindredBooks", "bookOf", "(I)LKindredBooks$Book;"⟩, 12) := ⟨⟨by decide +kernel, by decide +kernel⟩, List.mem_of_getElem? (i := 44) (by decide +kernel), List.mem_of_getElem? (i := 604) (by decide +kernel), List.mem_of_getElem? (i := 605) (by decide +kernel)⟩
theorem lw_p4 : lw_okq (⟨"KindredBooks", "checkRoom", "()V"⟩, 12) := ⟨⟨by decide +kernel, by decide +kernel⟩, List.mem_of_getElem? (i := 44) (by decide +kernel), List.mem_of_getElem? (i := 624) (by decide +kernel), List.mem_of_getElem? (i := 625) (by decide +kernel)⟩
theorem lw_p5 : lw_okq (⟨"KindredBooks$Book", "append", "(IIILKindredBooks$Line;)I"⟩, 9) := ⟨⟨by decide +kernel, by decide +kernel⟩, List.mem_of_getElem? (i := 262) (by decide +kernel), List.mem_of_getElem? (i := 633) (by decide +kernel), List.mem_of_getElem? (i := 634) (by decide +kernel)⟩
theorem lw_p6 : lw_okq (⟨"KindredBooks$Book", "learn", "(LKindredBooks$Change;)V"⟩, 9) := ⟨⟨by decide +kernel, by decide +kernel⟩, List.mem_of_getElem? (i := 262) (by decide +kernel), List.mem_of_getElem? (i := 642) (by decide +kernel), List.mem_of_getElem? (i := 643) (by decide +kernel)⟩
theorem lw_p7 : lw_okq (⟨"KindredBooks$Book", "settle", "()V"⟩, 9) := ⟨⟨by decide +kernel, by decide +kernel⟩, List.mem_of_getElem? (i := 262) (by decide +kernel), List.mem_of_getElem? (i := 653) (by decide +kernel), List.mem_of_getElem? (i := 654) (by decide +kernel)⟩
theorem lw_p8 : lw_okq (⟨"KindredBooks$Book", "findCounting", "()V"⟩, 9) := ⟨⟨by decide +kernel, by decide +kernel⟩, List.mem_of_getElem? (i := 262) (by decide +kernel), List.mem_of_getElem? (i := 657) (by decide +kernel), List.mem_of_getElem? (i := 658) (by decide +kernel)⟩
theorem lw_p9 : lw_okq (⟨"KindredBooks$Book", "findLive", "()V"⟩, 9) := ⟨⟨by decide +kernel, by decide +kernel⟩, List.mem_of_getElem? (i := 262) (by decide +kernel), List.mem_of_getElem? (i := 662) (by decide +kernel), List.mem_of_getElem? (i := 663) (by decide +kernel)⟩
theorem lw_p10 : lw_okq (⟨"KindredBooks$Book", "findStanding", "()V"⟩, 9) := ⟨⟨by decide +kernel, by decide +kernel⟩, List.mem_of_getElem? (i := 262) (by decide +kernel), List.mem_of_getElem? (i := 666) (by decide +kernel), List.mem_of_getElem? (i := 667) (by decide +kernel)⟩
theorem lw_p11 : lw_okq (⟨"KindredBooks", "checkKind", "(I)V"⟩, 12) := ⟨⟨by decide +kernel, by decide +kernel⟩, List.mem_of_getElem? (i := 44) (by decide +kernel), List.mem_of_getElem? (i := 691) (by decide +kernel), List.mem_of_getElem? (i := 692) (by decide +kernel)⟩
theorem lw_p12 : lw_okq (⟨"KindredBooks", "checkLive", "(LKindredBooks$Book;I)V"⟩, 12) := ⟨⟨by decide +kernel, by decide +kernel⟩, List.mem_of_getElem? (i := 44) (by decide +kernel), List.mem_of_getElem? (i := 696) (by decide +kernel), List.mem_of_getElem? (i := 697) (by decide +kernel)⟩
theorem lw_p13 : lw_okq (⟨"KindredBooks$Line", "edge", "(I)I"⟩, 7) := ⟨⟨by decide +kernel, by decide +kernel⟩, List.mem_of_getElem? (i := 77) (by decide +kernel), List.mem_of_getElem? (i := 741) (by decide +kernel), List.mem_of_getElem? (i := 742) (by decide +kernel)⟩
theorem lw_p14 : lw_okq (⟨"KindredBooks$Line", "addPiece", "(I)V"⟩, 7) := ⟨⟨by decide +kernel, by decide +kernel⟩, List.mem_of_getElem? (i := 77) (by decide +kernel), List.mem_of_getElem? (i := 746) (by decide +kernel), List.mem_of_getElem? (i := 747) (by decide +kernel)⟩
theorem lw_p15 : lw_okq (⟨"KindredBooks", "makeOfTwo", "(IIII)I"⟩, 12) := ⟨⟨by decide +kernel, by decide +kernel⟩, List.mem_of_getElem? (i := 44) (by decide +kernel), List.mem_of_getElem? (i := 757) (by decide +kernel), List.mem_of_getElem? (i := 758) (by decide +kernel)⟩
def lw_privs_1 : List (MethodName × Nat) := [(⟨"KindredBooks$Paper", "checkLine", "(LKindredBooks$Text;I)I"⟩, 8), (⟨"KindredBooks$Paper", "tell", "(II)I"⟩, 8), (⟨"java/lang/Throwable", "fillInStackTrace", "(I)Ljava/lang/Throwable;"⟩, 6), (⟨"KindredBooks", "bookOf", "(I)LKindredBooks$Book;"⟩, 12), (⟨"KindredBooks", "checkRoom", "()V"⟩, 12), (⟨"KindredBooks$Book", "append", "(IIILKindredBooks$Line;)I"⟩, 9), (⟨"KindredBooks$Book", "learn", "(LKindredBooks$Change;)V"⟩, 9), (⟨"KindredBooks$Book", "settle", "()V"⟩, 9), (⟨"KindredBooks$Book", "findCounting", "()V"⟩, 9), (⟨"KindredBooks$Book", "findLive", "()V"⟩, 9), (⟨"KindredBooks$Book", "findStanding", "()V"⟩, 9), (⟨"KindredBooks", "checkKind", "(I)V"⟩, 12), (⟨"KindredBooks", "checkLive", "(LKindredBooks$Book;I)V"⟩, 12), (⟨"KindredBooks$Line", "edge", "(I)I"⟩, 7), (⟨"KindredBooks$Line", "addPiece", "(I)V"⟩, 7), (⟨"KindredBooks", "makeOfTwo", "(IIII)I"⟩, 12)]
theorem lw_r1 : ∀ q ∈ lw_privs_1, lw_okq q := List.forall_mem_cons.mpr ⟨lw_p0, List.forall_mem_cons.mpr ⟨lw_p1, List.forall_mem_cons.mpr ⟨lw_p2, List.forall_mem_cons.mpr ⟨lw_p3, List.forall_mem_cons.mpr ⟨lw_p4, List.forall_mem_cons.mpr ⟨lw_p5, List.forall_mem_cons.mpr ⟨lw_p6, List.forall_mem_cons.mpr ⟨lw_p7, List.forall_mem_cons.mpr ⟨lw_p8, List.forall_mem_cons.mpr ⟨lw_p9, List.forall_mem_cons.mpr ⟨lw_p10, List.forall_mem_cons.mpr ⟨lw_p11, List.forall_mem_cons.mpr ⟨lw_p12, List.forall_mem_cons.mpr ⟨lw_p13, List.forall_mem_cons.mpr ⟨lw_p14, List.forall_mem_cons.mpr ⟨lw_p15, fun _ h => absurd h List.not_mem_nil⟩⟩⟩⟩⟩⟩⟩⟩⟩⟩⟩⟩⟩⟩⟩⟩
theorem lw_p16 : lw_okq (⟨"KindredBooks", "checkChange", "(I)V"⟩, 12) := ⟨⟨by decide +kernel, by decide +kernel⟩, List.mem_of_getElem? (i := 44) (by decide +kernel), List.mem_of_getElem? (i := 790) (by decide +kernel), List.mem_of_getElem? (i := 791) (by decide +kernel)⟩
theorem lw_p17 : lw_okq (⟨"KindredBooks", "kinOf", "(I)LKindredBooks$Kin;"⟩, 12) := ⟨⟨by decide +kernel, by decide +kernel⟩, List.mem_of_getElem? (i := 44) (by decide +kernel), List.mem_of_getElem? (i := 864) (by decide +kernel), List.mem_of_getElem? (i := 865) (by decide +kernel)⟩
theorem lw_p18 : lw_okq (⟨"KindredBooks$Kin", "joinEntries", "()V"⟩, 13) := ⟨⟨by decide +kernel, by decide +kernel⟩, List.mem_of_getElem? (i := 299) (by decide +kernel), List.mem_of_getElem? (i := 872) (by decide +kernel), List.mem_of_getElem? (i := 873) (by decide +kernel)⟩
theorem lw_p19 : lw_okq (⟨"KindredBooks$Kin", "joinBy", "(LKindredBooks$Change;)V"⟩, 13) := ⟨⟨by decide +kernel, by decide +kernel⟩, List.mem_of_getElem? (i := 299) (by decide +kernel), List.mem_of_getElem? (i := 882) (by decide +kernel), List.mem_of_getElem? (i := 883) (by decide +kernel)⟩
theorem lw_p20 : lw_okq (⟨"KindredBooks$Kin", "listGroups", "()V"⟩, 13) := ⟨⟨by decide +kernel, by decide +kernel⟩, List.mem_of_getElem? (i := 299) (by decide +kernel), List.mem_of_getElem? (i := 896) (by decide +kernel), List.mem_of_getElem? (i := 897) (by decide +kernel)⟩
theorem lw_p21 : lw_okq (⟨"KindredBooks$Kin", "placeLines", "()V"⟩, 13) := ⟨⟨by decide +kernel, by decide +kernel⟩, List.mem_of_getElem? (i := 299) (by decide +kernel), List.mem_of_getElem? (i := 900) (by decide +kernel), List.mem_of_getElem? (i := 901) (by decide +kernel)⟩
theorem lw_p22 : lw_okq (⟨"KindredBooks$Kin", "ownerOf", "(LKindredBooks$Change;)I"⟩, 13) := ⟨⟨by decide +kernel, by decide +kernel⟩, List.mem_of_getElem? (i := 299) (by decide +kernel), List.mem_of_getElem? (i := 908) (by decide +kernel), List.mem_of_getElem? (i := 909) (by decide +kernel)⟩
theorem lw_p23 : lw_okq (⟨"KindredBooks$Kin", "putLine", "(II)V"⟩, 13) := ⟨⟨by decide +kernel, by decide +kernel⟩, List.mem_of_getElem? (i := 299) (by decide +kernel), List.mem_of_getElem? (i := 912) (by decide +kernel), List.mem_of_getElem? (i := 913) (by decide +kernel)⟩
theorem lw_p24 : lw_okq (⟨"KindredBooks$Kin", "markShown", "(I)V"⟩, 13) := ⟨⟨by decide +kernel, by decide +kernel⟩, List.mem_of_getElem? (i := 299) (by decide +kernel), List.mem_of_getElem? (i := 920) (by decide +kernel), List.mem_of_getElem? (i := 921) (by decide +kernel)⟩
theorem lw_p25 : lw_okq (⟨"KindredBooks$Kin", "changeAt", "(I)I"⟩, 13) := ⟨⟨by decide +kernel, by decide +kernel⟩, List.mem_of_getElem? (i := 299) (by decide +kernel), List.mem_of_getElem? (i := 936) (by decide +kernel), List.mem_of_getElem? (i := 937) (by decide +kernel)⟩
theorem lw_p26 : lw_okq (⟨"KindredBooks$Kin", "hasValueBetween", "(IILKindredBooks$Line;)Z"⟩, 13) := ⟨⟨by decide +kernel, by decide +kernel⟩, List.mem_of_getElem? (i := 299) (by decide +kernel), List.mem_of_getElem? (i := 940) (by decide +kernel), List.mem_of_getElem? (i := 941) (by decide +kernel)⟩
theorem lw_p27 : lw_okq (⟨"KindredBooks$Line", "valueText", "()LKindredBooks$Text;"⟩, 7) := ⟨⟨by decide +kernel, by decide +kernel⟩, List.mem_of_getElem? (i := 77) (by decide +kernel), List.mem_of_getElem? (i := 948) (by decide +kernel), List.mem_of_getElem? (i := 949) (by decide +kernel)⟩
theorem lw_p28 : lw_okq (⟨"KindredBooks$Kin", "hasKindBetween", "(III)Z"⟩, 13) := ⟨⟨by decide +kernel, by decide +kernel⟩, List.mem_of_getElem? (i := 299) (by decide +kernel), List.mem_of_getElem? (i := 960) (by decide +kernel), List.mem_of_getElem? (i := 961) (by decide +kernel)⟩
theorem lw_p29 : lw_okq (⟨"KindredBooks$Kin", "otherEnd", "(II)I"⟩, 13) := ⟨⟨by decide +kernel, by decide +kernel⟩, List.mem_of_getElem? (i := 299) (by decide +kernel), List.mem_of_getElem? (i := 1014) (by decide +kernel), List.mem_of_getElem? (i := 1015) (by decide +kernel)⟩
theorem lw_p30 : lw_okq (⟨"KindredBooks$Measure", "compareForms", "(LKindredBooks$Line;LKindredBooks$Line;)V"⟩, 6) := ⟨⟨by decide +kernel, by decide +kernel⟩, List.mem_of_getElem? (i := 186) (by decide +kernel), List.mem_of_getElem? (i := 1106) (by decide +kernel), List.mem_of_getElem? (i := 1107) (by decide +kernel)⟩
theorem lw_p31 : lw_okq (⟨"KindredBooks$Measure", "compareLetters", "(LKindredBooks$Text;LKindredBooks$Text;)I"⟩, 6) := ⟨⟨by decide +kernel, by decide +kernel⟩, List.mem_of_getElem? (i := 186) (by decide +kernel), List.mem_of_getElem? (i := 1120) (by decide +kernel), List.mem_of_getElem? (i := 1121) (by decide +kernel)⟩
def lw_privs_2 : List (MethodName × Nat) := [(⟨"KindredBooks", "checkChange", "(I)V"⟩, 12), (⟨"KindredBooks", "kinOf", "(I)LKindredBooks$Kin;"⟩, 12), (⟨"KindredBooks$Kin", "joinEntries", "()V"⟩, 13), (⟨"KindredBooks$Kin", "joinBy", "(LKindredBooks$Change;)V"⟩, 13), (⟨"KindredBooks$Kin", "listGroups", "()V"⟩, 13), (⟨"KindredBooks$Kin", "placeLines", "()V"⟩, 13), (⟨"KindredBooks$Kin", "ownerOf", "(LKindredBooks$Change;)I"⟩, 13), (⟨"KindredBooks$Kin", "putLine", "(II)V"⟩, 13), (⟨"KindredBooks$Kin", "markShown", "(I)V"⟩, 13), (⟨"KindredBooks$Kin", "changeAt", "(I)I"⟩, 13), (⟨"KindredBooks$Kin", "hasValueBetween", "(IILKindredBooks$Line;)Z"⟩, 13), (⟨"KindredBooks$Line", "valueText", "()LKindredBooks$Text;"⟩, 7), (⟨"KindredBooks$Kin", "hasKindBetween", "(III)Z"⟩, 13), (⟨"KindredBooks$Kin", "otherEnd", "(II)I"⟩, 13), (⟨"KindredBooks$Measure", "compareForms", "(LKindredBooks$Line;LKindredBooks$Line;)V"⟩, 6), (⟨"KindredBooks$Measure", "compareLetters", "(LKindredBooks$Text;LKindredBooks$Text;)I"⟩, 6)]
theorem lw_r2 : ∀ q ∈ lw_privs_2, lw_okq q := List.forall_mem_cons.mpr ⟨lw_p16, List.forall_mem_cons.mpr ⟨lw_p17, List.forall_mem_cons.mpr ⟨lw_p18, List.forall_mem_cons.mpr ⟨lw_p19, List.forall_mem_cons.mpr ⟨lw_p20, List.forall_mem_cons.mpr ⟨lw_p21, List.forall_mem_cons.mpr ⟨lw_p22, List.forall_mem_cons.mpr ⟨lw_p23, List.forall_mem_cons.mpr ⟨lw_p24, List.forall_mem_cons.mpr ⟨lw_p25, List.forall_mem_cons.mpr ⟨lw_p26, List.forall_mem_cons.mpr ⟨lw_p27, List.forall_mem_cons.mpr ⟨lw_p28, List.forall_mem_cons.mpr ⟨lw_p29, List.forall_mem_cons.mpr ⟨lw_p30, List.forall_mem_cons.mpr ⟨lw_p31, fun _ h => absurd h List.not_mem_nil⟩⟩⟩⟩⟩⟩⟩⟩⟩⟩⟩⟩⟩⟩⟩⟩
theorem lw_p32 : lw_okq (⟨"KindredBooks$Measure", "findDistance", "(LKindredBooks$Text;IILKindredBooks$Text;)I"⟩, 6) := ⟨⟨by decide +kernel, by decide +kernel⟩, List.mem_of_getElem? (i := 186) (by decide +kernel), List.mem_of_getElem? (i := 1124) (by decide +kernel), List.mem_of_getElem? (i := 1125) (by decide +kernel)⟩
theorem lw_p33 : lw_okq (⟨"KindredBooks$Measure", "fillRow", "(II)V"⟩, 6) := ⟨⟨by decide +kernel, by decide +kernel⟩, List.mem_of_getElem? (i := 186) (by decide +kernel), List.mem_of_getElem? (i := 1130) (by decide +kernel), List.mem_of_getElem? (i := 1131) (by decide +kernel)⟩
theorem lw_p34 : lw_okq (⟨"KindredBooks", "addSuggestion", "(LKindredBooks$Kin;III)V"⟩, 12) := ⟨⟨by decide +kernel, by decide +kernel⟩, List.mem_of_getElem? (i := 44) (by decide +kernel), List.mem_of_getElem? (i := 1150) (by decide +kernel), List.mem_of_getElem? (i := 1151) (by decide +kernel)⟩
theorem lw_p35 : lw_okq (⟨"KindredBooks$Answers", "sink", "(II)V"⟩, 2) := ⟨⟨by decide +kernel, by decide +kernel⟩, List.mem_of_getElem? (i := 248) (by decide +kernel), List.mem_of_getElem? (i := 1183) (by decide +kernel), List.mem_of_getElem? (i := 1184) (by decide +kernel)⟩
theorem lw_p36 : lw_okq (⟨"KindredBooks$Answers", "swap", "(II)V"⟩, 2) := ⟨⟨by decide +kernel, by decide +kernel⟩, List.mem_of_getElem? (i := 248) (by decide +kernel), List.mem_of_getElem? (i := 1187) (by decide +kernel), List.mem_of_getElem? (i := 1188) (by decide +kernel)⟩
theorem lw_p37 : lw_okq (⟨"KindredBooks", "rowOf", "(LKindredBooks$Answers;I)J"⟩, 12) := ⟨⟨by decide +kernel, by decide +kernel⟩, List.mem_of_getElem? (i := 44) (by decide +kernel), List.mem_of_getElem? (i := 1198) (by decide +kernel), List.mem_of_getElem? (i := 1199) (by decide +kernel)⟩
theorem lw_p38 : lw_okq (⟨"KindredBooks$Measure", "rankWords", "(LKindredBooks$Text;ILKindredBooks$Text;)I"⟩, 6) := ⟨⟨by decide +kernel, by decide +kernel⟩, List.mem_of_getElem? (i := 186) (by decide +kernel), List.mem_of_getElem? (i := 1240) (by decide +kernel), List.mem_of_getElem? (i := 1241) (by decide +kernel)⟩
theorem lw_p39 : lw_okq (⟨"KindredBooks$Measure", "rankNear", "(LKindredBooks$Text;IILKindredBooks$Text;)I"⟩, 6) := ⟨⟨by decide +kernel, by decide +kernel⟩, List.mem_of_getElem? (i := 186) (by decide +kernel), List.mem_of_getElem? (i := 1247) (by decide +kernel), List.mem_of_getElem? (i := 1248) (by decide +kernel)⟩
theorem lw_p40 : lw_okq (⟨"KindredBooks$Kin", "isMember", "(II)Z"⟩, 13) := ⟨⟨by decide +kernel, by decide +kernel⟩, List.mem_of_getElem? (i := 299) (by decide +kernel), List.mem_of_getElem? (i := 1272) (by decide +kernel), List.mem_of_getElem? (i := 1273) (by decide +kernel)⟩
theorem lw_p41 : lw_okq (⟨"KindredBooks", "addReturn", "(ILKindredBooks$Text;III)V"⟩, 12) := ⟨⟨by decide +kernel, by decide +kernel⟩, List.mem_of_getElem? (i := 44) (by decide +kernel), List.mem_of_getElem? (i := 1299) (by decide +kernel), List.mem_of_getElem? (i := 1300) (by decide +kernel)⟩
theorem lw_p42 : lw_okq (⟨"KindredBooks$Book", "isCardOf", "(ILKindredBooks$Paper;I)Z"⟩, 9) := ⟨⟨by decide +kernel, by decide +kernel⟩, List.mem_of_getElem? (i := 262) (by decide +kernel), List.mem_of_getElem? (i := 1339) (by decide +kernel), List.mem_of_getElem? (i := 1340) (by decide +kernel)⟩
theorem lw_p43 : lw_okq (⟨"KindredBooks$Book", "countLinesOf", "(I)I"⟩, 9) := ⟨⟨by decide +kernel, by decide +kernel⟩, List.mem_of_getElem? (i := 262) (by decide +kernel), List.mem_of_getElem? (i := 1343) (by decide +kernel), List.mem_of_getElem? (i := 1344) (by decide +kernel)⟩
theorem lw_p44 : lw_okq (⟨"KindredBooks$Book", "isLineOf", "(II)Z"⟩, 9) := ⟨⟨by decide +kernel, by decide +kernel⟩, List.mem_of_getElem? (i := 262) (by decide +kernel), List.mem_of_getElem? (i := 1347) (by decide +kernel), List.mem_of_getElem? (i := 1348) (by decide +kernel)⟩
theorem lw_p45 : lw_okq (⟨"KindredBooks$Book", "countValueOf", "(ILKindredBooks$Line;)I"⟩, 9) := ⟨⟨by decide +kernel, by decide +kernel⟩, List.mem_of_getElem? (i := 262) (by decide +kernel), List.mem_of_getElem? (i := 1352) (by decide +kernel), List.mem_of_getElem? (i := 1353) (by decide +kernel)⟩
theorem lw_p46 : lw_okq (⟨"KindredBooks$Kin", "spreadNumbers", "()Z"⟩, 13) := ⟨⟨by decide +kernel, by decide +kernel⟩, List.mem_of_getElem? (i := 299) (by decide +kernel), List.mem_of_getElem? (i := 1406) (by decide +kernel), List.mem_of_getElem? (i := 1407) (by decide +kernel)⟩
theorem lw_p47 : lw_okq (⟨"KindredBooksModel", "passes", "(ZZZZ)Z"⟩, 14) := ⟨⟨by decide +kernel, by decide +kernel⟩, List.mem_of_getElem? (i := 1450) (by decide +kernel), List.mem_of_getElem? (i := 1659) (by decide +kernel), List.mem_of_getElem? (i := 1660) (by decide +kernel)⟩
def lw_privs_3 : List (MethodName × Nat) := [(⟨"KindredBooks$Measure", "findDistance", "(LKindredBooks$Text;IILKindredBooks$Text;)I"⟩, 6), (⟨"KindredBooks$Measure", "fillRow", "(II)V"⟩, 6), (⟨"KindredBooks", "addSuggestion", "(LKindredBooks$Kin;III)V"⟩, 12), (⟨"KindredBooks$Answers", "sink", "(II)V"⟩, 2), (⟨"KindredBooks$Answers", "swap", "(II)V"⟩, 2), (⟨"KindredBooks", "rowOf", "(LKindredBooks$Answers;I)J"⟩, 12), (⟨"KindredBooks$Measure", "rankWords", "(LKindredBooks$Text;ILKindredBooks$Text;)I"⟩, 6), (⟨"KindredBooks$Measure", "rankNear", "(LKindredBooks$Text;IILKindredBooks$Text;)I"⟩, 6), (⟨"KindredBooks$Kin", "isMember", "(II)Z"⟩, 13), (⟨"KindredBooks", "addReturn", "(ILKindredBooks$Text;III)V"⟩, 12), (⟨"KindredBooks$Book", "isCardOf", "(ILKindredBooks$Paper;I)Z"⟩, 9), (⟨"KindredBooks$Book", "countLinesOf", "(I)I"⟩, 9), (⟨"KindredBooks$Book", "isLineOf", "(II)Z"⟩, 9), (⟨"KindredBooks$Book", "countValueOf", "(ILKindredBooks$Line;)I"⟩, 9), (⟨"KindredBooks$Kin", "spreadNumbers", "()Z"⟩, 13), (⟨"KindredBooksModel", "passes", "(ZZZZ)Z"⟩, 14)]
theorem lw_r3 : ∀ q ∈ lw_privs_3, lw_okq q := List.forall_mem_cons.mpr ⟨lw_p32, List.forall_mem_cons.mpr ⟨lw_p33, List.forall_mem_cons.mpr ⟨lw_p34, List.forall_mem_cons.mpr ⟨lw_p35, List.forall_mem_cons.mpr ⟨lw_p36, List.forall_mem_cons.mpr ⟨lw_p37, List.forall_mem_cons.mpr ⟨lw_p38, List.forall_mem_cons.mpr ⟨lw_p39, List.forall_mem_cons.mpr ⟨lw_p40, List.forall_mem_cons.mpr ⟨lw_p41, List.forall_mem_cons.mpr ⟨lw_p42, List.forall_mem_cons.mpr ⟨lw_p43, List.forall_mem_cons.mpr ⟨lw_p44, List.forall_mem_cons.mpr ⟨lw_p45, List.forall_mem_cons.mpr ⟨lw_p46, List.forall_mem_cons.mpr ⟨lw_p47, fun _ h => absurd h List.not_mem_nil⟩⟩⟩⟩⟩⟩⟩⟩⟩⟩⟩⟩⟩⟩⟩⟩
theorem lw_p48 : lw_okq (⟨"KindredBooksModel", "hasRoom", "(I)Z"⟩, 14) := ⟨⟨by decide +kernel, by decide +kernel⟩, List.mem_of_getElem? (i := 1450) (by decide +kernel), List.mem_of_getElem? (i := 1993) (by decide +kernel), List.mem_of_getElem? (i := 1994) (by decide +kernel)⟩
theorem lw_p49 : lw_okq (⟨"KindredBooksModel", "makes", "(IIIILjava/lang/String;)I"⟩, 14) := ⟨⟨by decide +kernel, by decide +kernel⟩, List.mem_of_getElem? (i := 1450) (by decide +kernel), List.mem_of_getElem? (i := 2007) (by decide +kernel), List.mem_of_getElem? (i := 2008) (by decide +kernel)⟩
theorem lw_p50 : lw_okq (⟨"java/util/ArrayList", "add", "(Ljava/lang/Object;[Ljava/lang/Object;I)V"⟩, 3) := ⟨⟨by decide +kernel, by decide +kernel⟩, List.mem_of_getElem? (i := 1456) (by decide +kernel), List.mem_of_getElem? (i := 2073) (by decide +kernel), List.mem_of_getElem? (i := 2074) (by decide +kernel)⟩
theorem lw_p51 : lw_okq (⟨"java/util/ArrayList", "grow", "()[Ljava/lang/Object;"⟩, 3) := ⟨⟨by decide +kernel, by decide +kernel⟩, List.mem_of_getElem? (i := 1456) (by decide +kernel), List.mem_of_getElem? (i := 2077) (by decide +kernel), List.mem_of_getElem? (i := 2078) (by decide +kernel)⟩
theorem lw_p52 : lw_okq (⟨"java/util/ArrayList", "grow", "(I)[Ljava/lang/Object;"⟩, 3) := ⟨⟨by decide +kernel, by decide +kernel⟩, List.mem_of_getElem? (i := 1456) (by decide +kernel), List.mem_of_getElem? (i := 2081) (by decide +kernel), List.mem_of_getElem? (i := 2082) (by decide +kernel)⟩
theorem lw_p53 : lw_okq (⟨"KindredBooksModel$View", "isTold", "(II)Z"⟩, 6) := ⟨⟨by decide +kernel, by decide +kernel⟩, List.mem_of_getElem? (i := 2128) (by decide +kernel), List.mem_of_getElem? (i := 2138) (by decide +kernel), List.mem_of_getElem? (i := 2139) (by decide +kernel)⟩
theorem lw_p54 : lw_okq (⟨"KindredBooksModel$View", "comes", "(I)V"⟩, 6) := ⟨⟨by decide +kernel, by decide +kernel⟩, List.mem_of_getElem? (i := 2128) (by decide +kernel), List.mem_of_getElem? (i := 2145) (by decide +kernel), List.mem_of_getElem? (i := 2146) (by decide +kernel)⟩
theorem lw_p55 : lw_okq (⟨"KindredBooksModel", "isEarlier", "(II)Z"⟩, 14) := ⟨⟨by decide +kernel, by decide +kernel⟩, List.mem_of_getElem? (i := 1450) (by decide +kernel), List.mem_of_getElem? (i := 2154) (by decide +kernel), List.mem_of_getElem? (i := 2155) (by decide +kernel)⟩
theorem lw_p56 : lw_okq (⟨"java/util/ArrayList", "rangeCheckForAdd", "(I)V"⟩, 3) := ⟨⟨by decide +kernel, by decide +kernel⟩, List.mem_of_getElem? (i := 1456) (by decide +kernel), List.mem_of_getElem? (i := 2187) (by decide +kernel), List.mem_of_getElem? (i := 2188) (by decide +kernel)⟩
theorem lw_p57 : lw_okq (⟨"java/util/ArrayList", "outOfBoundsMsg", "(I)Ljava/lang/String;"⟩, 3) := ⟨⟨by decide +kernel, by decide +kernel⟩, List.mem_of_getElem? (i := 1456) (by decide +kernel), List.mem_of_getElem? (i := 2192) (by decide +kernel), List.mem_of_getElem? (i := 2193) (by decide +kernel)⟩
theorem lw_p58 : lw_okq (⟨"KindredBooksModel$View", "isStanding", "(I)Z"⟩, 6) := ⟨⟨by decide +kernel, by decide +kernel⟩, List.mem_of_getElem? (i := 2128) (by decide +kernel), List.mem_of_getElem? (i := 2205) (by decide +kernel), List.mem_of_getElem? (i := 2206) (by decide +kernel)⟩
theorem lw_p59 : lw_okq (⟨"KindredBooksModel", "isChange", "(I)Z"⟩, 14) := ⟨⟨by decide +kernel, by decide +kernel⟩, List.mem_of_getElem? (i := 1450) (by decide +kernel), List.mem_of_getElem? (i := 2213) (by decide +kernel), List.mem_of_getElem? (i := 2214) (by decide +kernel)⟩
theorem lw_p60 : lw_okq (⟨"KindredBooksModel$View", "joins", "(I)V"⟩, 6) := ⟨⟨by decide +kernel, by decide +kernel⟩, List.mem_of_getElem? (i := 2128) (by decide +kernel), List.mem_of_getElem? (i := 2217) (by decide +kernel), List.mem_of_getElem? (i := 2218) (by decide +kernel)⟩
theorem lw_p61 : lw_okq (⟨"KindredBooksModel", "pair", "(IIII)I"⟩, 14) := ⟨⟨by decide +kernel, by decide +kernel⟩, List.mem_of_getElem? (i := 1450) (by decide +kernel), List.mem_of_getElem? (i := 2287) (by decide +kernel), List.mem_of_getElem? (i := 2288) (by decide +kernel)⟩
theorem lw_p62 : lw_okq (⟨"KindredBooksModel", "asked", "(III)LKindredBooksModel$View;"⟩, 14) := ⟨⟨by decide +kernel, by decide +kernel⟩, List.mem_of_getElem? (i := 1450) (by decide +kernel), List.mem_of_getElem? (i := 2361) (by decide +kernel), List.mem_of_getElem? (i := 2362) (by decide +kernel)⟩
theorem lw_p63 : lw_okq (⟨"KindredBooksModel", "far", "(LKindredBooksModel$View;I)[I"⟩, 14) := ⟨⟨by decide +kernel, by decide +kernel⟩, List.mem_of_getElem? (i := 1450) (by decide +kernel), List.mem_of_getElem? (i := 2377) (by decide +kernel), List.mem_of_getElem? (i := 2378) (by decide +kernel)⟩
def lw_privs_4 : List (MethodName × Nat) := [(⟨"KindredBooksModel", "hasRoom", "(I)Z"⟩, 14), (⟨"KindredBooksModel", "makes", "(IIIILjava/lang/String;)I"⟩, 14), (⟨"java/util/ArrayList", "add", "(Ljava/lang/Object;[Ljava/lang/Object;I)V"⟩, 3), (⟨"java/util/ArrayList", "grow", "()[Ljava/lang/Object;"⟩, 3), (⟨"java/util/ArrayList", "grow", "(I)[Ljava/lang/Object;"⟩, 3), (⟨"KindredBooksModel$View", "isTold", "(II)Z"⟩, 6), (⟨"KindredBooksModel$View", "comes", "(I)V"⟩, 6), (⟨"KindredBooksModel", "isEarlier", "(II)Z"⟩, 14), (⟨"java/util/ArrayList", "rangeCheckForAdd", "(I)V"⟩, 3), (⟨"java/util/ArrayList", "outOfBoundsMsg", "(I)Ljava/lang/String;"⟩, 3), (⟨"KindredBooksModel$View", "isStanding", "(I)Z"⟩, 6), (⟨"KindredBooksModel", "isChange", "(I)Z"⟩, 14), (⟨"KindredBooksModel$View", "joins", "(I)V"⟩, 6), (⟨"KindredBooksModel", "pair", "(IIII)I"⟩, 14), (⟨"KindredBooksModel", "asked", "(III)LKindredBooksModel$View;"⟩, 14), (⟨"KindredBooksModel", "far", "(LKindredBooksModel$View;I)[I"⟩, 14)]
theorem lw_r4 : ∀ q ∈ lw_privs_4, lw_okq q := List.forall_mem_cons.mpr ⟨lw_p48, List.forall_mem_cons.mpr ⟨lw_p49, List.forall_mem_cons.mpr ⟨lw_p50, List.forall_mem_cons.mpr ⟨lw_p51, List.forall_mem_cons.mpr ⟨lw_p52, List.forall_mem_cons.mpr ⟨lw_p53, List.forall_mem_cons.mpr ⟨lw_p54, List.forall_mem_cons.mpr ⟨lw_p55, List.forall_mem_cons.mpr ⟨lw_p56, List.forall_mem_cons.mpr ⟨lw_p57, List.forall_mem_cons.mpr ⟨lw_p58, List.forall_mem_cons.mpr ⟨lw_p59, List.forall_mem_cons.mpr ⟨lw_p60, List.forall_mem_cons.mpr ⟨lw_p61, List.forall_mem_cons.mpr ⟨lw_p62, List.forall_mem_cons.mpr ⟨lw_p63, fun _ h => absurd h List.not_mem_nil⟩⟩⟩⟩⟩⟩⟩⟩⟩⟩⟩⟩⟩⟩⟩⟩
theorem lw_p64 : lw_okq (⟨"KindredBooksModel", "nearer", "(LKindredBooksModel$View;[II)I"⟩, 14) := ⟨⟨by decide +kernel, by decide +kernel⟩, List.mem_of_getElem? (i := 1450) (by decide +kernel), List.mem_of_getElem? (i := 2381) (by decide +kernel), List.mem_of_getElem? (i := 2382) (by decide +kernel)⟩
theorem lw_p65 : lw_okq (⟨"KindredBooksModel", "askedKind", "(III)LKindredBooksModel$View;"⟩, 14) := ⟨⟨by decide +kernel, by decide +kernel⟩, List.mem_of_getElem? (i := 1450) (by decide +kernel), List.mem_of_getElem? (i := 2394) (by decide +kernel), List.mem_of_getElem? (i := 2395) (by decide +kernel)⟩
theorem lw_p66 : lw_okq (⟨"KindredBooksModel", "value", "(ILjava/lang/String;)Ljava/lang/String;"⟩, 14) := ⟨⟨by decide +kernel, by decide +kernel⟩, List.mem_of_getElem? (i := 1450) (by decide +kernel), List.mem_of_getElem? (i := 2410) (by decide +kernel), List.mem_of_getElem? (i := 2411) (by decide +kernel)⟩
theorem lw_p67 : lw_okq (⟨"KindredBooksModel", "call", "(Ljava/lang/String;)Ljava/lang/String;"⟩, 14) := ⟨⟨by decide +kernel, by decide +kernel⟩, List.mem_of_getElem? (i := 1450) (by decide +kernel), List.mem_of_getElem? (i := 2429) (by decide +kernel), List.mem_of_getElem? (i := 2430) (by decide +kernel)⟩
theorem lw_p68 : lw_okq (⟨"KindredBooksModel", "measured", "(LKindredBooksModel$View;II)[I"⟩, 14) := ⟨⟨by decide +kernel, by decide +kernel⟩, List.mem_of_getElem? (i := 1450) (by decide +kernel), List.mem_of_getElem? (i := 2571) (by decide +kernel), List.mem_of_getElem? (i := 2572) (by decide +kernel)⟩
theorem lw_p69 : lw_okq (⟨"KindredBooksModel", "membersOf", "(LKindredBooksModel$View;I)Ljava/util/List;"⟩, 14) := ⟨⟨by decide +kernel, by decide +kernel⟩, List.mem_of_getElem? (i := 1450) (by decide +kernel), List.mem_of_getElem? (i := 2711) (by decide +kernel), List.mem_of_getElem? (i := 2712) (by decide +kernel)⟩
theorem lw_p70 : lw_okq (⟨"KindredBooksModel", "reads", "()V"⟩, 14) := ⟨⟨by decide +kernel, by decide +kernel⟩, List.mem_of_getElem? (i := 1450) (by decide +kernel), List.mem_of_getElem? (i := 2739) (by decide +kernel), List.mem_of_getElem? (i := 2740) (by decide +kernel)⟩
theorem lw_p71 : lw_okq (⟨"KindredBooksModel", "readsLine", "(I)I"⟩, 14) := ⟨⟨by decide +kernel, by decide +kernel⟩, List.mem_of_getElem? (i := 1450) (by decide +kernel), List.mem_of_getElem? (i := 2743) (by decide +kernel), List.mem_of_getElem? (i := 2744) (by decide +kernel)⟩
theorem lw_p72 : lw_okq (⟨"KindredBooksModel", "fails", "(II)V"⟩, 14) := ⟨⟨by decide +kernel, by decide +kernel⟩, List.mem_of_getElem? (i := 1450) (by decide +kernel), List.mem_of_getElem? (i := 2752) (by decide +kernel), List.mem_of_getElem? (i := 2753) (by decide +kernel)⟩
theorem lw_p73 : lw_okq (⟨"KindredBooksModel", "isKnown", "(II)Z"⟩, 14) := ⟨⟨by decide +kernel, by decide +kernel⟩, List.mem_of_getElem? (i := 1450) (by decide +kernel), List.mem_of_getElem? (i := 2777) (by decide +kernel), List.mem_of_getElem? (i := 2778) (by decide +kernel)⟩
theorem lw_p74 : lw_okq (⟨"KindredBooksModel", "isCard", "(LKindredBooksModel$View;II)Z"⟩, 14) := ⟨⟨by decide +kernel, by decide +kernel⟩, List.mem_of_getElem? (i := 1450) (by decide +kernel), List.mem_of_getElem? (i := 2781) (by decide +kernel), List.mem_of_getElem? (i := 2782) (by decide +kernel)⟩
theorem lw_p75 : lw_okq (⟨"KindredBooksModel", "often", "(IILjava/lang/String;)I"⟩, 14) := ⟨⟨by decide +kernel, by decide +kernel⟩, List.mem_of_getElem? (i := 1450) (by decide +kernel), List.mem_of_getElem? (i := 2786) (by decide +kernel), List.mem_of_getElem? (i := 2787) (by decide +kernel)⟩
theorem lw_p76 : lw_okq (⟨"KindredBooksModel", "oftenOf", "(LKindredBooksModel$View;IILjava/lang/String;)I"⟩, 14) := ⟨⟨by decide +kernel, by decide +kernel⟩, List.mem_of_getElem? (i := 1450) (by decide +kernel), List.mem_of_getElem? (i := 2790) (by decide +kernel), List.mem_of_getElem? (i := 2791) (by decide +kernel)⟩
theorem lw_p77 : lw_okq (⟨"KindredBooksModel", "failsOfGroups", "(LKindredBooksModel$View;)I"⟩, 14) := ⟨⟨by decide +kernel, by decide +kernel⟩, List.mem_of_getElem? (i := 1450) (by decide +kernel), List.mem_of_getElem? (i := 2808) (by decide +kernel), List.mem_of_getElem? (i := 2809) (by decide +kernel)⟩
theorem lw_p78 : lw_okq (⟨"KindredBooksModel", "failsOfPairs", "(LKindredBooksModel$View;)I"⟩, 14) := ⟨⟨by decide +kernel, by decide +kernel⟩, List.mem_of_getElem? (i := 1450) (by decide +kernel), List.mem_of_getElem? (i := 2812) (by decide +kernel), List.mem_of_getElem? (i := 2813) (by decide +kernel)⟩
def lw_privs_5 : List (MethodName × Nat) := [(⟨"KindredBooksModel", "nearer", "(LKindredBooksModel$View;[II)I"⟩, 14), (⟨"KindredBooksModel", "askedKind", "(III)LKindredBooksModel$View;"⟩, 14), (⟨"KindredBooksModel", "value", "(ILjava/lang/String;)Ljava/lang/String;"⟩, 14), (⟨"KindredBooksModel", "call", "(Ljava/lang/String;)Ljava/lang/String;"⟩, 14), (⟨"KindredBooksModel", "measured", "(LKindredBooksModel$View;II)[I"⟩, 14), (⟨"KindredBooksModel", "membersOf", "(LKindredBooksModel$View;I)Ljava/util/List;"⟩, 14), (⟨"KindredBooksModel", "reads", "()V"⟩, 14), (⟨"KindredBooksModel", "readsLine", "(I)I"⟩, 14), (⟨"KindredBooksModel", "fails", "(II)V"⟩, 14), (⟨"KindredBooksModel", "isKnown", "(II)Z"⟩, 14), (⟨"KindredBooksModel", "isCard", "(LKindredBooksModel$View;II)Z"⟩, 14), (⟨"KindredBooksModel", "often", "(IILjava/lang/String;)I"⟩, 14), (⟨"KindredBooksModel", "oftenOf", "(LKindredBooksModel$View;IILjava/lang/String;)I"⟩, 14), (⟨"KindredBooksModel", "failsOfGroups", "(LKindredBooksModel$View;)I"⟩, 14), (⟨"KindredBooksModel", "failsOfPairs", "(LKindredBooksModel$View;)I"⟩, 14)]
theorem lw_r5 : ∀ q ∈ lw_privs_5, lw_okq q := List.forall_mem_cons.mpr ⟨lw_p64, List.forall_mem_cons.mpr ⟨lw_p65, List.forall_mem_cons.mpr ⟨lw_p66, List.forall_mem_cons.mpr ⟨lw_p67, List.forall_mem_cons.mpr ⟨lw_p68, List.forall_mem_cons.mpr ⟨lw_p69, List.forall_mem_cons.mpr ⟨lw_p70, List.forall_mem_cons.mpr ⟨lw_p71, List.forall_mem_cons.mpr ⟨lw_p72, List.forall_mem_cons.mpr ⟨lw_p73, List.forall_mem_cons.mpr ⟨lw_p74, List.forall_mem_cons.mpr ⟨lw_p75, List.forall_mem_cons.mpr ⟨lw_p76, List.forall_mem_cons.mpr ⟨lw_p77, List.forall_mem_cons.mpr ⟨lw_p78, fun _ h => absurd h List.not_mem_nil⟩⟩⟩⟩⟩⟩⟩⟩⟩⟩⟩⟩⟩⟩⟩
def lw_privs : List (MethodName × Nat) := lw_privs_1 ++ (lw_privs_2 ++ (lw_privs_3 ++ (lw_privs_4 ++ (lw_privs_5))))
def lw_tbl : List Cond := k2_sels lw_privs ++ tables_1
theorem lw_privs_ok : ∀ q ∈ lw_privs, lw_okq q := by
  show ∀ q ∈ lw_privs_1 ++ (lw_privs_2 ++ (lw_privs_3 ++ (lw_privs_4 ++ (lw_privs_5)))), lw_okq q
  exact List.forall_mem_append.mpr ⟨lw_r1, List.forall_mem_append.mpr ⟨lw_r2, List.forall_mem_append.mpr ⟨lw_r3, List.forall_mem_append.mpr ⟨lw_r4, lw_r5⟩⟩⟩⟩
/-- the streams that the claim lets the run draw from -/
abbrev lw_cs : List Choice := [Jvm.Choice.named "NaN.bits"]
theorem lw_bits : nanBits ∈ lw_cs := by first | decide | exact List.mem_cons_self | simp [lw_cs, nanBits]
-- ===== end of PART A; then your names; then what follows =====

/-! ONE LIST OF WORDS for every method: what the tables say that holds at any call -/
def W0 : List Cond := lw_tbl.filter goodWord
theorem W0_of {w : Cond} (h : w ∈ lw_tbl) (g : goodWord w = true) : w ∈ W0 := List.mem_filter.mpr ⟨h, g⟩
theorem W0_good {w : Cond} (h : w ∈ W0) : goodWord w = true := (List.mem_filter.mp h).2
theorem W0_tbl {w : Cond} (h : w ∈ W0) : w ∈ lw_tbl := (List.mem_filter.mp h).1
/-- a method's words: its own code, then the one list -/
def wz (y : MethodName) (c : ByteArray) (n : Nat) (ret : Option FieldType) : List Cond := .code y c n ret :: W0
theorem wz_hw {args : Array Value} {s : State} {y : MethodName} {c : ByteArray} {n : Nat} {ret : Option FieldType} (h : ∀ w ∈ wz y c n ret, w.before args s = true) : ∀ w ∈ W0, w.before args s = true := fun w hw => h w (List.mem_cons_of_mem _ hw)
theorem wz_in {y : MethodName} {c : ByteArray} {n : Nat} {ret : Option FieldType} (h : Cond.code y c n ret ∈ W0) : GoodIn W0 (wz y c n ret) := fun w hw => by
  rcases List.mem_cons.mp hw with rfl | h1
  · exact ⟨h, good_of_word (W0_good h)⟩
  · exact ⟨h1, good_of_word (W0_good h1)⟩
theorem mw_358 : (Jvm.Cond.laysFinal "KindredBooks" "KindredBooks" "text" "LKindredBooks$Text;") ∈ W0 := W0_of (List.mem_append_right _ (List.mem_of_getElem? (i := 358) (by decide +kernel))) rfl
theorem mw_360 : (Jvm.Cond.laysFinal "KindredBooks" "KindredBooks" "page" "LKindredBooks$Text;") ∈ W0 := W0_of (List.mem_append_right _ (List.mem_of_getElem? (i := 360) (by decide +kernel))) rfl
theorem mw_362 : (Jvm.Cond.laysFinal "KindredBooks" "KindredBooks" "sought" "LKindredBooks$Text;") ∈ W0 := W0_of (List.mem_append_right _ (List.mem_of_getElem? (i := 362) (by decide +kernel))) rfl
theorem mw_364 : (Jvm.Cond.laysFinal "KindredBooks" "KindredBooks" "ledger" "LKindredBooks$Ledger;") ∈ W0 := W0_of (List.mem_append_right _ (List.mem_of_getElem? (i := 364) (by decide +kernel))) rfl
theorem mw_366 : (Jvm.Cond.laysFinal "KindredBooks" "KindredBooks" "books" "[LKindredBooks$Book;") ∈ W0 := W0_of (List.mem_append_right _ (List.mem_of_getElem? (i := 366) (by decide +kernel))) rfl
theorem mw_368 : (Jvm.Cond.laysFinal "KindredBooks" "KindredBooks" "kins" "[LKindredBooks$Kin;") ∈ W0 := W0_of (List.mem_append_right _ (List.mem_of_getElem? (i := 368) (by decide +kernel))) rfl
theorem mw_370 : (Jvm.Cond.laysFinal "KindredBooks" "KindredBooks" "measure" "LKindredBooks$Measure;") ∈ W0 := W0_of (List.mem_append_right _ (List.mem_of_getElem? (i := 370) (by decide +kernel))) rfl
theorem mw_372 : (Jvm.Cond.laysFinal "KindredBooks" "KindredBooks" "paper" "LKindredBooks$Paper;") ∈ W0 := W0_of (List.mem_append_right _ (List.mem_of_getElem? (i := 372) (by decide +kernel))) rfl
theorem mw_374 : (Jvm.Cond.laysFinal "KindredBooks" "KindredBooks" "suggestions" "LKindredBooks$Answers;") ∈ W0 := W0_of (List.mem_append_right _ (List.mem_of_getElem? (i := 374) (by decide +kernel))) rfl
theorem mw_376 : (Jvm.Cond.laysFinal "KindredBooks" "KindredBooks" "finds" "LKindredBooks$Answers;") ∈ W0 := W0_of (List.mem_append_right _ (List.mem_of_getElem? (i := 376) (by decide +kernel))) rfl
theorem mw_378 : (Jvm.Cond.laysFinal "KindredBooks" "KindredBooks" "returns" "LKindredBooks$Answers;") ∈ W0 := W0_of (List.mem_append_right _ (List.mem_of_getElem? (i := 378) (by decide +kernel))) rfl
theorem mw_380 : (Jvm.Cond.lays "KindredBooks" "KindredBooks" "country" "I") ∈ W0 := W0_of (List.mem_append_right _ (List.mem_of_getElem? (i := 380) (by decide +kernel))) rfl
def T_zk0 : u_T := fun k => match k with
  | 0 => ("KindredBooks", "text", "LKindredBooks$Text;", true)
  | 1 => ("KindredBooks", "page", "LKindredBooks$Text;", true)
  | 2 => ("KindredBooks", "sought", "LKindredBooks$Text;", true)
  | 3 => ("KindredBooks", "ledger", "LKindredBooks$Ledger;", true)
  | 4 => ("KindredBooks", "books", "[LKindredBooks$Book;", true)
  | 5 => ("KindredBooks", "kins", "[LKindredBooks$Kin;", true)
  | 6 => ("KindredBooks", "measure", "LKindredBooks$Measure;", true)
  | 7 => ("KindredBooks", "paper", "LKindredBooks$Paper;", true)
  | 8 => ("KindredBooks", "suggestions", "LKindredBooks$Answers;", true)
  | 9 => ("KindredBooks", "finds", "LKindredBooks$Answers;", true)
  | 10 => ("KindredBooks", "returns", "LKindredBooks$Answers;", true)
  | _ => ("KindredBooks", "country", "I", false)
def ty_zk0 : Nat → FieldType := fun k => match k with
  | 0 => (.object "KindredBooks$Text")
  | 1 => (.object "KindredBooks$Text")
  | 2 => (.object "KindredBooks$Text")
  | 3 => (.object "KindredBooks$Ledger")
  | 4 => (.array (.object "KindredBooks$Book"))
  | 5 => (.array (.object "KindredBooks$Kin"))
  | 6 => (.object "KindredBooks$Measure")
  | 7 => (.object "KindredBooks$Paper")
  | 8 => (.object "KindredBooks$Answers")
  | 9 => (.object "KindredBooks$Answers")
  | 10 => (.object "KindredBooks$Answers")
  | _ => .int
theorem nm_zk0 : ∀ a, a < 12 → ∀ b, b < 12 → a ≠ b → (T_zk0 a).2.1 ≠ (T_zk0 b).2.1 := by decide +kernel
theorem ok_zk0 : ∀ k, k < 12 → parseFieldDescriptor (T_zk0 k).2.2.1 = some (ty_zk0 k) := by decide +kernel
theorem in_zk0 : ∀ w ∈ u_ws "KindredBooks" T_zk0 12, w ∈ W0 := by
  intro w hw
  obtain ⟨k, hk, rfl⟩ := List.mem_map.mp hw
  match k, List.mem_range.mp hk with
  | 0, _ => exact mw_358
  | 1, _ => exact mw_360
  | 2, _ => exact mw_362
  | 3, _ => exact mw_364
  | 4, _ => exact mw_366
  | 5, _ => exact mw_368
  | 6, _ => exact mw_370
  | 7, _ => exact mw_372
  | 8, _ => exact mw_374
  | 9, _ => exact mw_376
  | 10, _ => exact mw_378
  | 11, _ => exact mw_380
  | k + 12, h => exact absurd h (by omega)
theorem mw_64 : (Jvm.Cond.laysFinal "KindredBooks$Text" "KindredBooks$Text" "bytes" "[B") ∈ W0 := W0_of (List.mem_append_right _ (List.mem_of_getElem? (i := 64) (by decide +kernel))) rfl
theorem mw_66 : (Jvm.Cond.lays "KindredBooks$Text" "KindredBooks$Text" "length" "I") ∈ W0 := W0_of (List.mem_append_right _ (List.mem_of_getElem? (i := 66) (by decide +kernel))) rfl
def T_zk1 : u_T := fun k => match k with
  | 0 => ("KindredBooks$Text", "bytes", "[B", true)
  | _ => ("KindredBooks$Text", "length", "I", false)
def ty_zk1 : Nat → FieldType := fun k => match k with
  | 0 => (.array .byte)
  | _ => .int
theorem nm_zk1 : ∀ a, a < 2 → ∀ b, b < 2 → a ≠ b → (T_zk1 a).2.1 ≠ (T_zk1 b).2.1 := by decide +kernel
theorem ok_zk1 : ∀ k, k < 2 → parseFieldDescriptor (T_zk1 k).2.2.1 = some (ty_zk1 k) := by decide +kernel
theorem in_zk1 : ∀ w ∈ u_ws "KindredBooks$Text" T_zk1 2, w ∈ W0 := by
  intro w hw
  obtain ⟨k, hk, rfl⟩ := List.mem_map.mp hw
  match k, List.mem_range.mp hk with
  | 0, _ => exact mw_64
  | 1, _ => exact mw_66
  | k + 2, h => exact absurd h (by omega)
theorem mw_172 : (Jvm.Cond.laysFinal "KindredBooks$Ledger" "KindredBooks$Ledger" "blank" "LKindredBooks$Line;") ∈ W0 := W0_of (List.mem_append_right _ (List.mem_of_getElem? (i := 172) (by decide +kernel))) rfl
theorem mw_174 : (Jvm.Cond.laysFinal "KindredBooks$Ledger" "KindredBooks$Ledger" "nothing" "LKindredBooks$Change;") ∈ W0 := W0_of (List.mem_append_right _ (List.mem_of_getElem? (i := 174) (by decide +kernel))) rfl
theorem mw_176 : (Jvm.Cond.laysFinal "KindredBooks$Ledger" "KindredBooks$Ledger" "rows" "[LKindredBooks$Change;") ∈ W0 := W0_of (List.mem_append_right _ (List.mem_of_getElem? (i := 176) (by decide +kernel))) rfl
theorem mw_178 : (Jvm.Cond.lays "KindredBooks$Ledger" "KindredBooks$Ledger" "size" "I") ∈ W0 := W0_of (List.mem_append_right _ (List.mem_of_getElem? (i := 178) (by decide +kernel))) rfl
def T_zk2 : u_T := fun k => match k with
  | 0 => ("KindredBooks$Ledger", "blank", "LKindredBooks$Line;", true)
  | 1 => ("KindredBooks$Ledger", "nothing", "LKindredBooks$Change;", true)
  | 2 => ("KindredBooks$Ledger", "rows", "[LKindredBooks$Change;", true)
  | _ => ("KindredBooks$Ledger", "size", "I", false)
def ty_zk2 : Nat → FieldType := fun k => match k with
  | 0 => (.object "KindredBooks$Line")
  | 1 => (.object "KindredBooks$Change")
  | 2 => (.array (.object "KindredBooks$Change"))
  | _ => .int
theorem nm_zk2 : ∀ a, a < 4 → ∀ b, b < 4 → a ≠ b → (T_zk2 a).2.1 ≠ (T_zk2 b).2.1 := by decide +kernel
theorem ok_zk2 : ∀ k, k < 4 → parseFieldDescriptor (T_zk2 k).2.2.1 = some (ty_zk2 k) := by decide +kernel
theorem in_zk2 : ∀ w ∈ u_ws "KindredBooks$Ledger" T_zk2 4, w ∈ W0 := by
  intro w hw
  obtain ⟨k, hk, rfl⟩ := List.mem_map.mp hw
  match k, List.mem_range.mp hk with
  | 0, _ => exact mw_172
  | 1, _ => exact mw_174
  | 2, _ => exact mw_176
  | 3, _ => exact mw_178
  | k + 4, h => exact absurd h (by omega)
theorem mw_146 : (Jvm.Cond.laysFinal "KindredBooks$Change" "KindredBooks$Change" "number" "I") ∈ W0 := W0_of (List.mem_append_right _ (List.mem_of_getElem? (i := 146) (by decide +kernel))) rfl
theorem mw_148 : (Jvm.Cond.laysFinal "KindredBooks$Change" "KindredBooks$Change" "kind" "I") ∈ W0 := W0_of (List.mem_append_right _ (List.mem_of_getElem? (i := 148) (by decide +kernel))) rfl
theorem mw_150 : (Jvm.Cond.laysFinal "KindredBooks$Change" "KindredBooks$Change" "hand" "I") ∈ W0 := W0_of (List.mem_append_right _ (List.mem_of_getElem? (i := 150) (by decide +kernel))) rfl
theorem mw_152 : (Jvm.Cond.laysFinal "KindredBooks$Change" "KindredBooks$Change" "count" "I") ∈ W0 := W0_of (List.mem_append_right _ (List.mem_of_getElem? (i := 152) (by decide +kernel))) rfl
theorem mw_154 : (Jvm.Cond.laysFinal "KindredBooks$Change" "KindredBooks$Change" "first" "I") ∈ W0 := W0_of (List.mem_append_right _ (List.mem_of_getElem? (i := 154) (by decide +kernel))) rfl
theorem mw_156 : (Jvm.Cond.laysFinal "KindredBooks$Change" "KindredBooks$Change" "second" "I") ∈ W0 := W0_of (List.mem_append_right _ (List.mem_of_getElem? (i := 156) (by decide +kernel))) rfl
theorem mw_158 : (Jvm.Cond.laysFinal "KindredBooks$Change" "KindredBooks$Change" "line" "LKindredBooks$Line;") ∈ W0 := W0_of (List.mem_append_right _ (List.mem_of_getElem? (i := 158) (by decide +kernel))) rfl
def T_zk3 : u_T := fun k => match k with
  | 0 => ("KindredBooks$Change", "number", "I", true)
  | 1 => ("KindredBooks$Change", "kind", "I", true)
  | 2 => ("KindredBooks$Change", "hand", "I", true)
  | 3 => ("KindredBooks$Change", "count", "I", true)
  | 4 => ("KindredBooks$Change", "first", "I", true)
  | 5 => ("KindredBooks$Change", "second", "I", true)
  | _ => ("KindredBooks$Change", "line", "LKindredBooks$Line;", true)
def ty_zk3 : Nat → FieldType := fun k => match k with
  | 0 => .int
  | 1 => .int
  | 2 => .int
  | 3 => .int
  | 4 => .int
  | 5 => .int
  | _ => (.object "KindredBooks$Line")
theorem nm_zk3 : ∀ a, a < 7 → ∀ b, b < 7 → a ≠ b → (T_zk3 a).2.1 ≠ (T_zk3 b).2.1 := by decide +kernel
theorem ok_zk3 : ∀ k, k < 7 → parseFieldDescriptor (T_zk3 k).2.2.1 = some (ty_zk3 k) := by decide +kernel
theorem in_zk3 : ∀ w ∈ u_ws "KindredBooks$Change" T_zk3 7, w ∈ W0 := by
  intro w hw
  obtain ⟨k, hk, rfl⟩ := List.mem_map.mp hw
  match k, List.mem_range.mp hk with
  | 0, _ => exact mw_146
  | 1, _ => exact mw_148
  | 2, _ => exact mw_150
  | 3, _ => exact mw_152
  | 4, _ => exact mw_154
  | 5, _ => exact mw_156
  | 6, _ => exact mw_158
  | k + 7, h => exact absurd h (by omega)
theorem mw_99 : (Jvm.Cond.lays "KindredBooks$Line" "KindredBooks$Line" "kind" "I") ∈ W0 := W0_of (List.mem_append_right _ (List.mem_of_getElem? (i := 99) (by decide +kernel))) rfl
theorem mw_101 : (Jvm.Cond.laysFinal "KindredBooks$Line" "KindredBooks$Line" "text" "LKindredBooks$Text;") ∈ W0 := W0_of (List.mem_append_right _ (List.mem_of_getElem? (i := 101) (by decide +kernel))) rfl
theorem mw_103 : (Jvm.Cond.laysFinal "KindredBooks$Line" "KindredBooks$Line" "plain" "LKindredBooks$Text;") ∈ W0 := W0_of (List.mem_append_right _ (List.mem_of_getElem? (i := 103) (by decide +kernel))) rfl
theorem mw_105 : (Jvm.Cond.laysFinal "KindredBooks$Line" "KindredBooks$Line" "call" "LKindredBooks$Text;") ∈ W0 := W0_of (List.mem_append_right _ (List.mem_of_getElem? (i := 105) (by decide +kernel))) rfl
theorem mw_107 : (Jvm.Cond.laysFinal "KindredBooks$Line" "KindredBooks$Line" "sound" "LKindredBooks$Text;") ∈ W0 := W0_of (List.mem_append_right _ (List.mem_of_getElem? (i := 107) (by decide +kernel))) rfl
theorem mw_109 : (Jvm.Cond.laysFinal "KindredBooks$Line" "KindredBooks$Line" "pieces" "[I") ∈ W0 := W0_of (List.mem_append_right _ (List.mem_of_getElem? (i := 109) (by decide +kernel))) rfl
theorem mw_111 : (Jvm.Cond.lays "KindredBooks$Line" "KindredBooks$Line" "pieceCount" "I") ∈ W0 := W0_of (List.mem_append_right _ (List.mem_of_getElem? (i := 111) (by decide +kernel))) rfl
def T_zk4 : u_T := fun k => match k with
  | 0 => ("KindredBooks$Line", "kind", "I", false)
  | 1 => ("KindredBooks$Line", "text", "LKindredBooks$Text;", true)
  | 2 => ("KindredBooks$Line", "plain", "LKindredBooks$Text;", true)
  | 3 => ("KindredBooks$Line", "call", "LKindredBooks$Text;", true)
  | 4 => ("KindredBooks$Line", "sound", "LKindredBooks$Text;", true)
  | 5 => ("KindredBooks$Line", "pieces", "[I", true)
  | _ => ("KindredBooks$Line", "pieceCount", "I", false)
def ty_zk4 : Nat → FieldType := fun k => match k with
  | 0 => .int
  | 1 => (.object "KindredBooks$Text")
  | 2 => (.object "KindredBooks$Text")
  | 3 => (.object "KindredBooks$Text")
  | 4 => (.object "KindredBooks$Text")
  | 5 => (.array .int)
  | _ => .int
theorem nm_zk4 : ∀ a, a < 7 → ∀ b, b < 7 → a ≠ b → (T_zk4 a).2.1 ≠ (T_zk4 b).2.1 := by decide +kernel
theorem ok_zk4 : ∀ k, k < 7 → parseFieldDescriptor (T_zk4 k).2.2.1 = some (ty_zk4 k) := by decide +kernel
theorem in_zk4 : ∀ w ∈ u_ws "KindredBooks$Line" T_zk4 7, w ∈ W0 := by
  intro w hw
  obtain ⟨k, hk, rfl⟩ := List.mem_map.mp hw
  match k, List.mem_range.mp hk with
  | 0, _ => exact mw_99
  | 1, _ => exact mw_101
  | 2, _ => exact mw_103
  | 3, _ => exact mw_105
  | 4, _ => exact mw_107
  | 5, _ => exact mw_109
  | 6, _ => exact mw_111
  | k + 7, h => exact absurd h (by omega)
theorem mw_280 : (Jvm.Cond.laysFinal "KindredBooks$Book" "KindredBooks$Book" "hand" "I") ∈ W0 := W0_of (List.mem_append_right _ (List.mem_of_getElem? (i := 280) (by decide +kernel))) rfl
theorem mw_282 : (Jvm.Cond.laysFinal "KindredBooks$Book" "KindredBooks$Book" "ledger" "LKindredBooks$Ledger;") ∈ W0 := W0_of (List.mem_append_right _ (List.mem_of_getElem? (i := 282) (by decide +kernel))) rfl
theorem mw_284 : (Jvm.Cond.laysFinal "KindredBooks$Book" "KindredBooks$Book" "knows" "[Z") ∈ W0 := W0_of (List.mem_append_right _ (List.mem_of_getElem? (i := 284) (by decide +kernel))) rfl
theorem mw_286 : (Jvm.Cond.laysFinal "KindredBooks$Book" "KindredBooks$Book" "counting" "[Z") ∈ W0 := W0_of (List.mem_append_right _ (List.mem_of_getElem? (i := 286) (by decide +kernel))) rfl
theorem mw_288 : (Jvm.Cond.laysFinal "KindredBooks$Book" "KindredBooks$Book" "standing" "[Z") ∈ W0 := W0_of (List.mem_append_right _ (List.mem_of_getElem? (i := 288) (by decide +kernel))) rfl
theorem mw_290 : (Jvm.Cond.laysFinal "KindredBooks$Book" "KindredBooks$Book" "order" "[LKindredBooks$Change;") ∈ W0 := W0_of (List.mem_append_right _ (List.mem_of_getElem? (i := 290) (by decide +kernel))) rfl
theorem mw_292 : (Jvm.Cond.lays "KindredBooks$Book" "KindredBooks$Book" "size" "I") ∈ W0 := W0_of (List.mem_append_right _ (List.mem_of_getElem? (i := 292) (by decide +kernel))) rfl
theorem mw_294 : (Jvm.Cond.lays "KindredBooks$Book" "KindredBooks$Book" "greatest" "I") ∈ W0 := W0_of (List.mem_append_right _ (List.mem_of_getElem? (i := 294) (by decide +kernel))) rfl
theorem mw_296 : (Jvm.Cond.lays "KindredBooks$Book" "KindredBooks$Book" "version" "I") ∈ W0 := W0_of (List.mem_append_right _ (List.mem_of_getElem? (i := 296) (by decide +kernel))) rfl
def T_zk5 : u_T := fun k => match k with
  | 0 => ("KindredBooks$Book", "hand", "I", true)
  | 1 => ("KindredBooks$Book", "ledger", "LKindredBooks$Ledger;", true)
  | 2 => ("KindredBooks$Book", "knows", "[Z", true)
  | 3 => ("KindredBooks$Book", "counting", "[Z", true)
  | 4 => ("KindredBooks$Book", "standing", "[Z", true)
  | 5 => ("KindredBooks$Book", "order", "[LKindredBooks$Change;", true)
  | 6 => ("KindredBooks$Book", "size", "I", false)
  | 7 => ("KindredBooks$Book", "greatest", "I", false)
  | _ => ("KindredBooks$Book", "version", "I", false)
def ty_zk5 : Nat → FieldType := fun k => match k with
  | 0 => .int
  | 1 => (.object "KindredBooks$Ledger")
  | 2 => (.array .boolean)
  | 3 => (.array .boolean)
  | 4 => (.array .boolean)
  | 5 => (.array (.object "KindredBooks$Change"))
  | 6 => .int
  | 7 => .int
  | _ => .int
theorem nm_zk5 : ∀ a, a < 9 → ∀ b, b < 9 → a ≠ b → (T_zk5 a).2.1 ≠ (T_zk5 b).2.1 := by decide +kernel
theorem ok_zk5 : ∀ k, k < 9 → parseFieldDescriptor (T_zk5 k).2.2.1 = some (ty_zk5 k) := by decide +kernel
theorem in_zk5 : ∀ w ∈ u_ws "KindredBooks$Book" T_zk5 9, w ∈ W0 := by
  intro w hw
  obtain ⟨k, hk, rfl⟩ := List.mem_map.mp hw
  match k, List.mem_range.mp hk with
  | 0, _ => exact mw_280
  | 1, _ => exact mw_282
  | 2, _ => exact mw_284
  | 3, _ => exact mw_286
  | 4, _ => exact mw_288
  | 5, _ => exact mw_290
  | 6, _ => exact mw_292
  | 7, _ => exact mw_294
  | 8, _ => exact mw_296
  | k + 9, h => exact absurd h (by omega)
theorem mw_319 : (Jvm.Cond.laysFinal "KindredBooks$Kin" "KindredBooks$Kin" "book" "LKindredBooks$Book;") ∈ W0 := W0_of (List.mem_append_right _ (List.mem_of_getElem? (i := 319) (by decide +kernel))) rfl
theorem mw_321 : (Jvm.Cond.laysFinal "KindredBooks$Kin" "KindredBooks$Kin" "ledger" "LKindredBooks$Ledger;") ∈ W0 := W0_of (List.mem_append_right _ (List.mem_of_getElem? (i := 321) (by decide +kernel))) rfl
theorem mw_323 : (Jvm.Cond.laysFinal "KindredBooks$Kin" "KindredBooks$Kin" "group" "[I") ∈ W0 := W0_of (List.mem_append_right _ (List.mem_of_getElem? (i := 323) (by decide +kernel))) rfl
theorem mw_325 : (Jvm.Cond.laysFinal "KindredBooks$Kin" "KindredBooks$Kin" "holding" "[Z") ∈ W0 := W0_of (List.mem_append_right _ (List.mem_of_getElem? (i := 325) (by decide +kernel))) rfl
theorem mw_327 : (Jvm.Cond.laysFinal "KindredBooks$Kin" "KindredBooks$Kin" "numbers" "[I") ∈ W0 := W0_of (List.mem_append_right _ (List.mem_of_getElem? (i := 327) (by decide +kernel))) rfl
theorem mw_329 : (Jvm.Cond.lays "KindredBooks$Kin" "KindredBooks$Kin" "size" "I") ∈ W0 := W0_of (List.mem_append_right _ (List.mem_of_getElem? (i := 329) (by decide +kernel))) rfl
theorem mw_331 : (Jvm.Cond.laysFinal "KindredBooks$Kin" "KindredBooks$Kin" "lines" "[I") ∈ W0 := W0_of (List.mem_append_right _ (List.mem_of_getElem? (i := 331) (by decide +kernel))) rfl
theorem mw_333 : (Jvm.Cond.laysFinal "KindredBooks$Kin" "KindredBooks$Kin" "starts" "[I") ∈ W0 := W0_of (List.mem_append_right _ (List.mem_of_getElem? (i := 333) (by decide +kernel))) rfl
theorem mw_335 : (Jvm.Cond.laysFinal "KindredBooks$Kin" "KindredBooks$Kin" "isFirstOfValue" "[Z") ∈ W0 := W0_of (List.mem_append_right _ (List.mem_of_getElem? (i := 335) (by decide +kernel))) rfl
theorem mw_337 : (Jvm.Cond.laysFinal "KindredBooks$Kin" "KindredBooks$Kin" "isShown" "[Z") ∈ W0 := W0_of (List.mem_append_right _ (List.mem_of_getElem? (i := 337) (by decide +kernel))) rfl
theorem mw_339 : (Jvm.Cond.laysFinal "KindredBooks$Kin" "KindredBooks$Kin" "steps" "[I") ∈ W0 := W0_of (List.mem_append_right _ (List.mem_of_getElem? (i := 339) (by decide +kernel))) rfl
theorem mw_341 : (Jvm.Cond.laysFinal "KindredBooks$Kin" "KindredBooks$Kin" "queue" "[I") ∈ W0 := W0_of (List.mem_append_right _ (List.mem_of_getElem? (i := 341) (by decide +kernel))) rfl
theorem mw_343 : (Jvm.Cond.lays "KindredBooks$Kin" "KindredBooks$Kin" "freshVersion" "I") ∈ W0 := W0_of (List.mem_append_right _ (List.mem_of_getElem? (i := 343) (by decide +kernel))) rfl
def T_zk6 : u_T := fun k => match k with
  | 0 => ("KindredBooks$Kin", "book", "LKindredBooks$Book;", true)
  | 1 => ("KindredBooks$Kin", "ledger", "LKindredBooks$Ledger;", true)
  | 2 => ("KindredBooks$Kin", "group", "[I", true)
  | 3 => ("KindredBooks$Kin", "holding", "[Z", true)
  | 4 => ("KindredBooks$Kin", "numbers", "[I", true)
  | 5 => ("KindredBooks$Kin", "size", "I", false)
  | 6 => ("KindredBooks$Kin", "lines", "[I", true)
  | 7 => ("KindredBooks$Kin", "starts", "[I", true)
  | 8 => ("KindredBooks$Kin", "isFirstOfValue", "[Z", true)
  | 9 => ("KindredBooks$Kin", "isShown", "[Z", true)
  | 10 => ("KindredBooks$Kin", "steps", "[I", true)
  | 11 => ("KindredBooks$Kin", "queue", "[I", true)
  | _ => ("KindredBooks$Kin", "freshVersion", "I", false)
def ty_zk6 : Nat → FieldType := fun k => match k with
  | 0 => (.object "KindredBooks$Book")
  | 1 => (.object "KindredBooks$Ledger")
  | 2 => (.array .int)
  | 3 => (.array .boolean)
  | 4 => (.array .int)
  | 5 => .int
  | 6 => (.array .int)
  | 7 => (.array .int)
  | 8 => (.array .boolean)
  | 9 => (.array .boolean)
  | 10 => (.array .int)
  | 11 => (.array .int)
  | _ => .int
theorem nm_zk6 : ∀ a, a < 13 → ∀ b, b < 13 → a ≠ b → (T_zk6 a).2.1 ≠ (T_zk6 b).2.1 := by decide +kernel
theorem ok_zk6 : ∀ k, k < 13 → parseFieldDescriptor (T_zk6 k).2.2.1 = some (ty_zk6 k) := by decide +kernel
theorem in_zk6 : ∀ w ∈ u_ws "KindredBooks$Kin" T_zk6 13, w ∈ W0 := by
  intro w hw
  obtain ⟨k, hk, rfl⟩ := List.mem_map.mp hw
  match k, List.mem_range.mp hk with
  | 0, _ => exact mw_319
  | 1, _ => exact mw_321
  | 2, _ => exact mw_323
  | 3, _ => exact mw_325
  | 4, _ => exact mw_327
  | 5, _ => exact mw_329
  | 6, _ => exact mw_331
  | 7, _ => exact mw_333
  | 8, _ => exact mw_335
  | 9, _ => exact mw_337
  | 10, _ => exact mw_339
  | 11, _ => exact mw_341
  | 12, _ => exact mw_343
  | k + 13, h => exact absurd h (by omega)
theorem mw_197 : (Jvm.Cond.laysFinal "KindredBooks$Measure" "KindredBooks$Measure" "row" "[I") ∈ W0 := W0_of (List.mem_append_right _ (List.mem_of_getElem? (i := 197) (by decide +kernel))) rfl
theorem mw_199 : (Jvm.Cond.laysFinal "KindredBooks$Measure" "KindredBooks$Measure" "signs" "[I") ∈ W0 := W0_of (List.mem_append_right _ (List.mem_of_getElem? (i := 199) (by decide +kernel))) rfl
theorem mw_201 : (Jvm.Cond.lays "KindredBooks$Measure" "KindredBooks$Measure" "letters" "I") ∈ W0 := W0_of (List.mem_append_right _ (List.mem_of_getElem? (i := 201) (by decide +kernel))) rfl
theorem mw_203 : (Jvm.Cond.lays "KindredBooks$Measure" "KindredBooks$Measure" "pieces" "I") ∈ W0 := W0_of (List.mem_append_right _ (List.mem_of_getElem? (i := 203) (by decide +kernel))) rfl
theorem mw_205 : (Jvm.Cond.lays "KindredBooks$Measure" "KindredBooks$Measure" "sounds" "I") ∈ W0 := W0_of (List.mem_append_right _ (List.mem_of_getElem? (i := 205) (by decide +kernel))) rfl
theorem mw_207 : (Jvm.Cond.lays "KindredBooks$Measure" "KindredBooks$Measure" "calls" "I") ∈ W0 := W0_of (List.mem_append_right _ (List.mem_of_getElem? (i := 207) (by decide +kernel))) rfl
def T_zk7 : u_T := fun k => match k with
  | 0 => ("KindredBooks$Measure", "row", "[I", true)
  | 1 => ("KindredBooks$Measure", "signs", "[I", true)
  | 2 => ("KindredBooks$Measure", "letters", "I", false)
  | 3 => ("KindredBooks$Measure", "pieces", "I", false)
  | 4 => ("KindredBooks$Measure", "sounds", "I", false)
  | _ => ("KindredBooks$Measure", "calls", "I", false)
def ty_zk7 : Nat → FieldType := fun k => match k with
  | 0 => (.array .int)
  | 1 => (.array .int)
  | 2 => .int
  | 3 => .int
  | 4 => .int
  | _ => .int
theorem nm_zk7 : ∀ a, a < 6 → ∀ b, b < 6 → a ≠ b → (T_zk7 a).2.1 ≠ (T_zk7 b).2.1 := by decide +kernel
theorem ok_zk7 : ∀ k, k < 6 → parseFieldDescriptor (T_zk7 k).2.2.1 = some (ty_zk7 k) := by decide +kernel
theorem in_zk7 : ∀ w ∈ u_ws "KindredBooks$Measure" T_zk7 6, w ∈ W0 := by
  intro w hw
  obtain ⟨k, hk, rfl⟩ := List.mem_map.mp hw
  match k, List.mem_range.mp hk with
  | 0, _ => exact mw_197
  | 1, _ => exact mw_199
  | 2, _ => exact mw_201
  | 3, _ => exact mw_203
  | 4, _ => exact mw_205
  | 5, _ => exact mw_207
  | k + 6, h => exact absurd h (by omega)
theorem mw_229 : (Jvm.Cond.laysFinal "KindredBooks$Paper" "KindredBooks$Paper" "kinds" "[I") ∈ W0 := W0_of (List.mem_append_right _ (List.mem_of_getElem? (i := 229) (by decide +kernel))) rfl
theorem mw_231 : (Jvm.Cond.laysFinal "KindredBooks$Paper" "KindredBooks$Paper" "starts" "[I") ∈ W0 := W0_of (List.mem_append_right _ (List.mem_of_getElem? (i := 231) (by decide +kernel))) rfl
theorem mw_233 : (Jvm.Cond.laysFinal "KindredBooks$Paper" "KindredBooks$Paper" "ends" "[I") ∈ W0 := W0_of (List.mem_append_right _ (List.mem_of_getElem? (i := 233) (by decide +kernel))) rfl
theorem mw_235 : (Jvm.Cond.laysFinal "KindredBooks$Paper" "KindredBooks$Paper" "isLast" "[Z") ∈ W0 := W0_of (List.mem_append_right _ (List.mem_of_getElem? (i := 235) (by decide +kernel))) rfl
theorem mw_237 : (Jvm.Cond.laysFinal "KindredBooks$Paper" "KindredBooks$Paper" "drafts" "[LKindredBooks$Line;") ∈ W0 := W0_of (List.mem_append_right _ (List.mem_of_getElem? (i := 237) (by decide +kernel))) rfl
theorem mw_239 : (Jvm.Cond.lays "KindredBooks$Paper" "KindredBooks$Paper" "lines" "I") ∈ W0 := W0_of (List.mem_append_right _ (List.mem_of_getElem? (i := 239) (by decide +kernel))) rfl
theorem mw_241 : (Jvm.Cond.lays "KindredBooks$Paper" "KindredBooks$Paper" "errorKind" "I") ∈ W0 := W0_of (List.mem_append_right _ (List.mem_of_getElem? (i := 241) (by decide +kernel))) rfl
theorem mw_243 : (Jvm.Cond.lays "KindredBooks$Paper" "KindredBooks$Paper" "errorPlace" "I") ∈ W0 := W0_of (List.mem_append_right _ (List.mem_of_getElem? (i := 243) (by decide +kernel))) rfl
def T_zk8 : u_T := fun k => match k with
  | 0 => ("KindredBooks$Paper", "kinds", "[I", true)
  | 1 => ("KindredBooks$Paper", "starts", "[I", true)
  | 2 => ("KindredBooks$Paper", "ends", "[I", true)
  | 3 => ("KindredBooks$Paper", "isLast", "[Z", true)
  | 4 => ("KindredBooks$Paper", "drafts", "[LKindredBooks$Line;", true)
  | 5 => ("KindredBooks$Paper", "lines", "I", false)
  | 6 => ("KindredBooks$Paper", "errorKind", "I", false)
  | _ => ("KindredBooks$Paper", "errorPlace", "I", false)
def ty_zk8 : Nat → FieldType := fun k => match k with
  | 0 => (.array .int)
  | 1 => (.array .int)
  | 2 => (.array .int)
  | 3 => (.array .boolean)
  | 4 => (.array (.object "KindredBooks$Line"))
  | 5 => .int
  | 6 => .int
  | _ => .int
theorem nm_zk8 : ∀ a, a < 8 → ∀ b, b < 8 → a ≠ b → (T_zk8 a).2.1 ≠ (T_zk8 b).2.1 := by decide +kernel
theorem ok_zk8 : ∀ k, k < 8 → parseFieldDescriptor (T_zk8 k).2.2.1 = some (ty_zk8 k) := by decide +kernel
theorem in_zk8 : ∀ w ∈ u_ws "KindredBooks$Paper" T_zk8 8, w ∈ W0 := by
  intro w hw
  obtain ⟨k, hk, rfl⟩ := List.mem_map.mp hw
  match k, List.mem_range.mp hk with
  | 0, _ => exact mw_229
  | 1, _ => exact mw_231
  | 2, _ => exact mw_233
  | 3, _ => exact mw_235
  | 4, _ => exact mw_237
  | 5, _ => exact mw_239
  | 6, _ => exact mw_241
  | 7, _ => exact mw_243
  | k + 8, h => exact absurd h (by omega)
theorem mw_256 : (Jvm.Cond.lays "KindredBooks$Answers" "KindredBooks$Answers" "rows" "[J") ∈ W0 := W0_of (List.mem_append_right _ (List.mem_of_getElem? (i := 256) (by decide +kernel))) rfl
theorem mw_258 : (Jvm.Cond.lays "KindredBooks$Answers" "KindredBooks$Answers" "size" "I") ∈ W0 := W0_of (List.mem_append_right _ (List.mem_of_getElem? (i := 258) (by decide +kernel))) rfl
def T_zk9 : u_T := fun k => match k with
  | 0 => ("KindredBooks$Answers", "rows", "[J", false)
  | _ => ("KindredBooks$Answers", "size", "I", false)
def ty_zk9 : Nat → FieldType := fun k => match k with
  | 0 => (.array .long)
  | _ => .int
theorem nm_zk9 : ∀ a, a < 2 → ∀ b, b < 2 → a ≠ b → (T_zk9 a).2.1 ≠ (T_zk9 b).2.1 := by decide +kernel
theorem ok_zk9 : ∀ k, k < 2 → parseFieldDescriptor (T_zk9 k).2.2.1 = some (ty_zk9 k) := by decide +kernel
theorem in_zk9 : ∀ w ∈ u_ws "KindredBooks$Answers" T_zk9 2, w ∈ W0 := by
  intro w hw
  obtain ⟨k, hk, rfl⟩ := List.mem_map.mp hw
  match k, List.mem_range.mp hk with
  | 0, _ => exact mw_256
  | 1, _ => exact mw_258
  | k + 2, h => exact absurd h (by omega)
theorem mw_1532 : (Jvm.Cond.lays "KindredBooksModel" "KindredBooksModel" "thrown" "I") ∈ W0 := W0_of (List.mem_append_right _ (List.mem_of_getElem? (i := 1532) (by decide +kernel))) rfl
theorem mw_1534 : (Jvm.Cond.laysFinal "KindredBooksModel" "KindredBooksModel" "all" "Ljava/util/List;") ∈ W0 := W0_of (List.mem_append_right _ (List.mem_of_getElem? (i := 1534) (by decide +kernel))) rfl
theorem mw_1536 : (Jvm.Cond.laysFinal "KindredBooksModel" "KindredBooksModel" "knows" "[[Z") ∈ W0 := W0_of (List.mem_append_right _ (List.mem_of_getElem? (i := 1536) (by decide +kernel))) rfl
theorem mw_1538 : (Jvm.Cond.lays "KindredBooksModel" "KindredBooksModel" "country" "I") ∈ W0 := W0_of (List.mem_append_right _ (List.mem_of_getElem? (i := 1538) (by decide +kernel))) rfl
theorem mw_1540 : (Jvm.Cond.laysFinal "KindredBooksModel" "KindredBooksModel" "text" "Ljava/lang/StringBuilder;") ∈ W0 := W0_of (List.mem_append_right _ (List.mem_of_getElem? (i := 1540) (by decide +kernel))) rfl
theorem mw_1542 : (Jvm.Cond.lays "KindredBooksModel" "KindredBooksModel" "page" "Ljava/lang/String;") ∈ W0 := W0_of (List.mem_append_right _ (List.mem_of_getElem? (i := 1542) (by decide +kernel))) rfl
theorem mw_1544 : (Jvm.Cond.lays "KindredBooksModel" "KindredBooksModel" "suggestions" "Ljava/util/List;") ∈ W0 := W0_of (List.mem_append_right _ (List.mem_of_getElem? (i := 1544) (by decide +kernel))) rfl
theorem mw_1546 : (Jvm.Cond.lays "KindredBooksModel" "KindredBooksModel" "founds" "Ljava/util/List;") ∈ W0 := W0_of (List.mem_append_right _ (List.mem_of_getElem? (i := 1546) (by decide +kernel))) rfl
theorem mw_1548 : (Jvm.Cond.lays "KindredBooksModel" "KindredBooksModel" "yearlies" "Ljava/util/List;") ∈ W0 := W0_of (List.mem_append_right _ (List.mem_of_getElem? (i := 1548) (by decide +kernel))) rfl
theorem mw_1550 : (Jvm.Cond.lays "KindredBooksModel" "KindredBooksModel" "errorKind" "I") ∈ W0 := W0_of (List.mem_append_right _ (List.mem_of_getElem? (i := 1550) (by decide +kernel))) rfl
theorem mw_1552 : (Jvm.Cond.lays "KindredBooksModel" "KindredBooksModel" "errorPlace" "I") ∈ W0 := W0_of (List.mem_append_right _ (List.mem_of_getElem? (i := 1552) (by decide +kernel))) rfl
theorem mw_1554 : (Jvm.Cond.lays "KindredBooksModel" "KindredBooksModel" "paper" "Ljava/util/List;") ∈ W0 := W0_of (List.mem_append_right _ (List.mem_of_getElem? (i := 1554) (by decide +kernel))) rfl
theorem mw_1556 : (Jvm.Cond.lays "KindredBooksModel" "KindredBooksModel" "paperTexts" "Ljava/util/List;") ∈ W0 := W0_of (List.mem_append_right _ (List.mem_of_getElem? (i := 1556) (by decide +kernel))) rfl
theorem mw_1558 : (Jvm.Cond.lays "KindredBooksModel" "KindredBooksModel" "cards" "I") ∈ W0 := W0_of (List.mem_append_right _ (List.mem_of_getElem? (i := 1558) (by decide +kernel))) rfl
def T_zk10 : u_T := fun k => match k with
  | 0 => ("KindredBooksModel", "thrown", "I", false)
  | 1 => ("KindredBooksModel", "all", "Ljava/util/List;", true)
  | 2 => ("KindredBooksModel", "knows", "[[Z", true)
  | 3 => ("KindredBooksModel", "country", "I", false)
  | 4 => ("KindredBooksModel", "text", "Ljava/lang/StringBuilder;", true)
  | 5 => ("KindredBooksModel", "page", "Ljava/lang/String;", false)
  | 6 => ("KindredBooksModel", "suggestions", "Ljava/util/List;", false)
  | 7 => ("KindredBooksModel", "founds", "Ljava/util/List;", false)
  | 8 => ("KindredBooksModel", "yearlies", "Ljava/util/List;", false)
  | 9 => ("KindredBooksModel", "errorKind", "I", false)
  | 10 => ("KindredBooksModel", "errorPlace", "I", false)
  | 11 => ("KindredBooksModel", "paper", "Ljava/util/List;", false)
  | 12 => ("KindredBooksModel", "paperTexts", "Ljava/util/List;", false)
  | _ => ("KindredBooksModel", "cards", "I", false)
def ty_zk10 : Nat → FieldType := fun k => match k with
  | 0 => .int
  | 1 => (.object "java/util/List")
  | 2 => (.array (.array .boolean))
  | 3 => .int
  | 4 => (.object "java/lang/StringBuilder")
  | 5 => (.object "java/lang/String")
  | 6 => (.object "java/util/List")
  | 7 => (.object "java/util/List")
  | 8 => (.object "java/util/List")
  | 9 => .int
  | 10 => .int
  | 11 => (.object "java/util/List")
  | 12 => (.object "java/util/List")
  | _ => .int
theorem nm_zk10 : ∀ a, a < 14 → ∀ b, b < 14 → a ≠ b → (T_zk10 a).2.1 ≠ (T_zk10 b).2.1 := by decide +kernel
theorem ok_zk10 : ∀ k, k < 14 → parseFieldDescriptor (T_zk10 k).2.2.1 = some (ty_zk10 k) := by decide +kernel
theorem in_zk10 : ∀ w ∈ u_ws "KindredBooksModel" T_zk10 14, w ∈ W0 := by
  intro w hw
  obtain ⟨k, hk, rfl⟩ := List.mem_map.mp hw
  match k, List.mem_range.mp hk with
  | 0, _ => exact mw_1532
  | 1, _ => exact mw_1534
  | 2, _ => exact mw_1536
  | 3, _ => exact mw_1538
  | 4, _ => exact mw_1540
  | 5, _ => exact mw_1542
  | 6, _ => exact mw_1544
  | 7, _ => exact mw_1546
  | 8, _ => exact mw_1548
  | 9, _ => exact mw_1550
  | 10, _ => exact mw_1552
  | 11, _ => exact mw_1554
  | 12, _ => exact mw_1556
  | 13, _ => exact mw_1558
  | k + 14, h => exact absurd h (by omega)
theorem mw_2236 : (Jvm.Cond.laysFinal "KindredBooksModel$View" "KindredBooksModel$View" "counts" "[Z") ∈ W0 := W0_of (List.mem_append_right _ (List.mem_of_getElem? (i := 2236) (by decide +kernel))) rfl
theorem mw_2238 : (Jvm.Cond.laysFinal "KindredBooksModel$View" "KindredBooksModel$View" "stands" "[Z") ∈ W0 := W0_of (List.mem_append_right _ (List.mem_of_getElem? (i := 2238) (by decide +kernel))) rfl
theorem mw_2240 : (Jvm.Cond.laysFinal "KindredBooksModel$View" "KindredBooksModel$View" "holds" "[Z") ∈ W0 := W0_of (List.mem_append_right _ (List.mem_of_getElem? (i := 2240) (by decide +kernel))) rfl
theorem mw_2242 : (Jvm.Cond.laysFinal "KindredBooksModel$View" "KindredBooksModel$View" "group" "[I") ∈ W0 := W0_of (List.mem_append_right _ (List.mem_of_getElem? (i := 2242) (by decide +kernel))) rfl
theorem mw_2244 : (Jvm.Cond.laysFinal "KindredBooksModel$View" "KindredBooksModel$View" "order" "Ljava/util/List;") ∈ W0 := W0_of (List.mem_append_right _ (List.mem_of_getElem? (i := 2244) (by decide +kernel))) rfl
theorem mw_2246 : (Jvm.Cond.laysFinal "KindredBooksModel$View" "KindredBooksModel$View" "this$0" "LKindredBooksModel;") ∈ W0 := W0_of (List.mem_append_right _ (List.mem_of_getElem? (i := 2246) (by decide +kernel))) rfl
def T_zk11 : u_T := fun k => match k with
  | 0 => ("KindredBooksModel$View", "counts", "[Z", true)
  | 1 => ("KindredBooksModel$View", "stands", "[Z", true)
  | 2 => ("KindredBooksModel$View", "holds", "[Z", true)
  | 3 => ("KindredBooksModel$View", "group", "[I", true)
  | 4 => ("KindredBooksModel$View", "order", "Ljava/util/List;", true)
  | _ => ("KindredBooksModel$View", "this$0", "LKindredBooksModel;", true)
def ty_zk11 : Nat → FieldType := fun k => match k with
  | 0 => (.array .boolean)
  | 1 => (.array .boolean)
  | 2 => (.array .boolean)
  | 3 => (.array .int)
  | 4 => (.object "java/util/List")
  | _ => (.object "KindredBooksModel")
theorem nm_zk11 : ∀ a, a < 6 → ∀ b, b < 6 → a ≠ b → (T_zk11 a).2.1 ≠ (T_zk11 b).2.1 := by decide +kernel
theorem ok_zk11 : ∀ k, k < 6 → parseFieldDescriptor (T_zk11 k).2.2.1 = some (ty_zk11 k) := by decide +kernel
theorem in_zk11 : ∀ w ∈ u_ws "KindredBooksModel$View" T_zk11 6, w ∈ W0 := by
  intro w hw
  obtain ⟨k, hk, rfl⟩ := List.mem_map.mp hw
  match k, List.mem_range.mp hk with
  | 0, _ => exact mw_2236
  | 1, _ => exact mw_2238
  | 2, _ => exact mw_2240
  | 3, _ => exact mw_2242
  | 4, _ => exact mw_2244
  | 5, _ => exact mw_2246
  | k + 6, h => exact absurd h (by omega)
theorem mw_2050 : (Jvm.Cond.laysFinal "KindredBooksModel$Change" "KindredBooksModel$Change" "kind" "I") ∈ W0 := W0_of (List.mem_append_right _ (List.mem_of_getElem? (i := 2050) (by decide +kernel))) rfl
theorem mw_2052 : (Jvm.Cond.laysFinal "KindredBooksModel$Change" "KindredBooksModel$Change" "hand" "I") ∈ W0 := W0_of (List.mem_append_right _ (List.mem_of_getElem? (i := 2052) (by decide +kernel))) rfl
theorem mw_2054 : (Jvm.Cond.laysFinal "KindredBooksModel$Change" "KindredBooksModel$Change" "count" "I") ∈ W0 := W0_of (List.mem_append_right _ (List.mem_of_getElem? (i := 2054) (by decide +kernel))) rfl
theorem mw_2056 : (Jvm.Cond.laysFinal "KindredBooksModel$Change" "KindredBooksModel$Change" "first" "I") ∈ W0 := W0_of (List.mem_append_right _ (List.mem_of_getElem? (i := 2056) (by decide +kernel))) rfl
theorem mw_2058 : (Jvm.Cond.laysFinal "KindredBooksModel$Change" "KindredBooksModel$Change" "second" "I") ∈ W0 := W0_of (List.mem_append_right _ (List.mem_of_getElem? (i := 2058) (by decide +kernel))) rfl
theorem mw_2060 : (Jvm.Cond.laysFinal "KindredBooksModel$Change" "KindredBooksModel$Change" "text" "Ljava/lang/String;") ∈ W0 := W0_of (List.mem_append_right _ (List.mem_of_getElem? (i := 2060) (by decide +kernel))) rfl
def T_zk12 : u_T := fun k => match k with
  | 0 => ("KindredBooksModel$Change", "kind", "I", true)
  | 1 => ("KindredBooksModel$Change", "hand", "I", true)
  | 2 => ("KindredBooksModel$Change", "count", "I", true)
  | 3 => ("KindredBooksModel$Change", "first", "I", true)
  | 4 => ("KindredBooksModel$Change", "second", "I", true)
  | _ => ("KindredBooksModel$Change", "text", "Ljava/lang/String;", true)
def ty_zk12 : Nat → FieldType := fun k => match k with
  | 0 => .int
  | 1 => .int
  | 2 => .int
  | 3 => .int
  | 4 => .int
  | _ => (.object "java/lang/String")
theorem nm_zk12 : ∀ a, a < 6 → ∀ b, b < 6 → a ≠ b → (T_zk12 a).2.1 ≠ (T_zk12 b).2.1 := by decide +kernel
theorem ok_zk12 : ∀ k, k < 6 → parseFieldDescriptor (T_zk12 k).2.2.1 = some (ty_zk12 k) := by decide +kernel
theorem in_zk12 : ∀ w ∈ u_ws "KindredBooksModel$Change" T_zk12 6, w ∈ W0 := by
  intro w hw
  obtain ⟨k, hk, rfl⟩ := List.mem_map.mp hw
  match k, List.mem_range.mp hk with
  | 0, _ => exact mw_2050
  | 1, _ => exact mw_2052
  | 2, _ => exact mw_2054
  | 3, _ => exact mw_2056
  | 4, _ => exact mw_2058
  | 5, _ => exact mw_2060
  | k + 6, h => exact absurd h (by omega)
theorem mw_1478 : (Jvm.Cond.lays "java/util/ArrayList" "java/util/AbstractList" "modCount" "I") ∈ W0 := W0_of (List.mem_append_right _ (List.mem_of_getElem? (i := 1478) (by decide +kernel))) rfl
theorem mw_1474 : (Jvm.Cond.lays "java/util/ArrayList" "java/util/ArrayList" "elementData" "[Ljava/lang/Object;") ∈ W0 := W0_of (List.mem_append_right _ (List.mem_of_getElem? (i := 1474) (by decide +kernel))) rfl
theorem mw_1476 : (Jvm.Cond.lays "java/util/ArrayList" "java/util/ArrayList" "size" "I") ∈ W0 := W0_of (List.mem_append_right _ (List.mem_of_getElem? (i := 1476) (by decide +kernel))) rfl
def T_zk13 : u_T := fun k => match k with
  | 0 => ("java/util/AbstractList", "modCount", "I", false)
  | 1 => ("java/util/ArrayList", "elementData", "[Ljava/lang/Object;", false)
  | _ => ("java/util/ArrayList", "size", "I", false)
def ty_zk13 : Nat → FieldType := fun k => match k with
  | 0 => .int
  | 1 => (.array (.object "java/lang/Object"))
  | _ => .int
theorem nm_zk13 : ∀ a, a < 3 → ∀ b, b < 3 → a ≠ b → (T_zk13 a).2.1 ≠ (T_zk13 b).2.1 := by decide +kernel
theorem ok_zk13 : ∀ k, k < 3 → parseFieldDescriptor (T_zk13 k).2.2.1 = some (ty_zk13 k) := by decide +kernel
theorem in_zk13 : ∀ w ∈ u_ws "java/util/ArrayList" T_zk13 3, w ∈ W0 := by
  intro w hw
  obtain ⟨k, hk, rfl⟩ := List.mem_map.mp hw
  match k, List.mem_range.mp hk with
  | 0, _ => exact mw_1478
  | 1, _ => exact mw_1474
  | 2, _ => exact mw_1476
  | k + 3, h => exact absurd h (by omega)
theorem mw_1506 : (Jvm.Cond.lays "java/lang/StringBuilder" "java/lang/AbstractStringBuilder" "value" "[B") ∈ W0 := W0_of (List.mem_append_right _ (List.mem_of_getElem? (i := 1506) (by decide +kernel))) rfl
theorem mw_1508 : (Jvm.Cond.lays "java/lang/StringBuilder" "java/lang/AbstractStringBuilder" "coder" "B") ∈ W0 := W0_of (List.mem_append_right _ (List.mem_of_getElem? (i := 1508) (by decide +kernel))) rfl
theorem mw_1510 : (Jvm.Cond.lays "java/lang/StringBuilder" "java/lang/AbstractStringBuilder" "maybeLatin1" "Z") ∈ W0 := W0_of (List.mem_append_right _ (List.mem_of_getElem? (i := 1510) (by decide +kernel))) rfl
theorem mw_1512 : (Jvm.Cond.lays "java/lang/StringBuilder" "java/lang/AbstractStringBuilder" "count" "I") ∈ W0 := W0_of (List.mem_append_right _ (List.mem_of_getElem? (i := 1512) (by decide +kernel))) rfl
def T_zk14 : u_T := fun k => match k with
  | 0 => ("java/lang/AbstractStringBuilder", "value", "[B", false)
  | 1 => ("java/lang/AbstractStringBuilder", "coder", "B", false)
  | 2 => ("java/lang/AbstractStringBuilder", "maybeLatin1", "Z", false)
  | _ => ("java/lang/AbstractStringBuilder", "count", "I", false)
def ty_zk14 : Nat → FieldType := fun k => match k with
  | 0 => (.array .byte)
  | 1 => .byte
  | 2 => .boolean
  | _ => .int
theorem nm_zk14 : ∀ a, a < 4 → ∀ b, b < 4 → a ≠ b → (T_zk14 a).2.1 ≠ (T_zk14 b).2.1 := by decide +kernel
theorem ok_zk14 : ∀ k, k < 4 → parseFieldDescriptor (T_zk14 k).2.2.1 = some (ty_zk14 k) := by decide +kernel
theorem in_zk14 : ∀ w ∈ u_ws "java/lang/StringBuilder" T_zk14 4, w ∈ W0 := by
  intro w hw
  obtain ⟨k, hk, rfl⟩ := List.mem_map.mp hw
  match k, List.mem_range.mp hk with
  | 0, _ => exact mw_1506
  | 1, _ => exact mw_1508
  | 2, _ => exact mw_1510
  | 3, _ => exact mw_1512
  | k + 4, h => exact absurd h (by omega)
theorem mw_1920 : (Jvm.Cond.laysFinal "java/lang/String" "java/lang/String" "value" "[B") ∈ W0 := W0_of (List.mem_append_right _ (List.mem_of_getElem? (i := 1920) (by decide +kernel))) rfl
theorem mw_1922 : (Jvm.Cond.laysFinal "java/lang/String" "java/lang/String" "coder" "B") ∈ W0 := W0_of (List.mem_append_right _ (List.mem_of_getElem? (i := 1922) (by decide +kernel))) rfl
theorem mw_1924 : (Jvm.Cond.lays "java/lang/String" "java/lang/String" "hash" "I") ∈ W0 := W0_of (List.mem_append_right _ (List.mem_of_getElem? (i := 1924) (by decide +kernel))) rfl
theorem mw_1926 : (Jvm.Cond.lays "java/lang/String" "java/lang/String" "hashIsZero" "Z") ∈ W0 := W0_of (List.mem_append_right _ (List.mem_of_getElem? (i := 1926) (by decide +kernel))) rfl
def T_zk15 : u_T := fun k => match k with
  | 0 => ("java/lang/String", "value", "[B", true)
  | 1 => ("java/lang/String", "coder", "B", true)
  | 2 => ("java/lang/String", "hash", "I", false)
  | _ => ("java/lang/String", "hashIsZero", "Z", false)
def ty_zk15 : Nat → FieldType := fun k => match k with
  | 0 => (.array .byte)
  | 1 => .byte
  | 2 => .int
  | _ => .boolean
theorem nm_zk15 : ∀ a, a < 4 → ∀ b, b < 4 → a ≠ b → (T_zk15 a).2.1 ≠ (T_zk15 b).2.1 := by decide +kernel
theorem ok_zk15 : ∀ k, k < 4 → parseFieldDescriptor (T_zk15 k).2.2.1 = some (ty_zk15 k) := by decide +kernel
theorem in_zk15 : ∀ w ∈ u_ws "java/lang/String" T_zk15 4, w ∈ W0 := by
  intro w hw
  obtain ⟨k, hk, rfl⟩ := List.mem_map.mp hw
  match k, List.mem_range.mp hk with
  | 0, _ => exact mw_1920
  | 1, _ => exact mw_1922
  | 2, _ => exact mw_1924
  | 3, _ => exact mw_1926
  | k + 4, h => exact absurd h (by omega)
theorem mw_2174 : (Jvm.Cond.laysFinal "java/lang/Integer" "java/lang/Integer" "value" "I") ∈ W0 := W0_of (List.mem_append_right _ (List.mem_of_getElem? (i := 2174) (by decide +kernel))) rfl
def T_zk16 : u_T := fun k => match k with
  | _ => ("java/lang/Integer", "value", "I", true)
def ty_zk16 : Nat → FieldType := fun k => match k with
  | _ => .int
theorem nm_zk16 : ∀ a, a < 1 → ∀ b, b < 1 → a ≠ b → (T_zk16 a).2.1 ≠ (T_zk16 b).2.1 := by decide +kernel
theorem ok_zk16 : ∀ k, k < 1 → parseFieldDescriptor (T_zk16 k).2.2.1 = some (ty_zk16 k) := by decide +kernel
theorem in_zk16 : ∀ w ∈ u_ws "java/lang/Integer" T_zk16 1, w ∈ W0 := by
  intro w hw
  obtain ⟨k, hk, rfl⟩ := List.mem_map.mp hw
  match k, List.mem_range.mp hk with
  | 0, _ => exact mw_2174
  | k + 1, h => exact absurd h (by omega)
abbrev zcl : List vw_C := [("KindredBooks", T_zk0, 12), ("KindredBooks$Text", T_zk1, 2), ("KindredBooks$Ledger", T_zk2, 4), ("KindredBooks$Change", T_zk3, 7), ("KindredBooks$Line", T_zk4, 7), ("KindredBooks$Book", T_zk5, 9), ("KindredBooks$Kin", T_zk6, 13), ("KindredBooks$Measure", T_zk7, 6), ("KindredBooks$Paper", T_zk8, 8), ("KindredBooks$Answers", T_zk9, 2), ("KindredBooksModel", T_zk10, 14), ("KindredBooksModel$View", T_zk11, 6), ("KindredBooksModel$Change", T_zk12, 6), ("java/util/ArrayList", T_zk13, 3), ("java/lang/StringBuilder", T_zk14, 4), ("java/lang/String", T_zk15, 4), ("java/lang/Integer", T_zk16, 1)]
abbrev tz (dA : Nat → ClassId) : List (ClassId × FieldType) := [(dA 0, .int), (dA 1, .boolean), (dA 2, .byte), (dA 3, .long), (dA 4, .double), (dA 5, (.object "KindredBooks$Change")), (dA 6, (.object "KindredBooks$Book")), (dA 7, (.object "KindredBooks$Kin")), (dA 8, (.object "KindredBooks$Line")), (dA 9, (.object "java/lang/Object")), (dA 10, (.array .boolean))]
def zstrs : List (String × Nat × String) := [("KindredBooks", 87, "the text would be too long"), ("KindredBooks", 100, "the number of a country is 1 to 999"), ("KindredBooks", 395, "there is no such book"), ("KindredBooks", 402, "there are 250 changes"), ("KindredBooks", 404, "there is no such kind of lines"), ("KindredBooks", 409, "the entry is not live in this book"), ("KindredBooks", 151, "the text is none for such a line"), ("KindredBooks", 416, "both entries are the same one"), ("KindredBooks", 400, "there is no such change"), ("KindredBooks", 171, "the change does not count in this book"), ("KindredBooks", 198, "0 to 5 can be told of a change"), ("KindredBooks", 214, "there is no such group"), ("KindredBooks", 231, "the row has no such entry"), ("KindredBooks", 246, "there is no such line"), ("KindredBooks", 251, "the forms are 0 to 3"), ("KindredBooks", 261, "the page has no such byte"), ("KindredBooks", 269, "the bar is 401 to 1000"), ("KindredBooks", 411, "there is no such answer"), ("KindredBooks", 284, "0 to 2 can be told of a suggestion"), ("KindredBooks", 294, "there is no such way to search"), ("KindredBooks", 300, "there is nothing to search for"), ("KindredBooks", 322, "there is no such date, or no such number of days"), ("KindredBooks", 332, "0 to 2 can be told of a group"), ("KindredBooks", 344, "the text has an error"), ("KindredBooksModel", 41, ""), ("java/lang/AbstractStringBuilder", 230, "null"), ("java/lang/StringIndexOutOfBoundsException", 13, "String index out of range: "), ("java/util/Arrays", 337, " > "), ("java/util/Arrays", 48, "fromIndex("), ("java/util/Arrays", 57, ") > toIndex("), ("java/util/Arrays", 59, ")"), ("java/lang/ArrayIndexOutOfBoundsException", 13, "Array index out of range: "), ("java/util/ArrayList", 201, "Index: "), ("java/util/ArrayList", 203, ", Size: "), ("KindredBooksModel", 126, " "), ("KindredBooksModel", 153, "+"), ("java/lang/StringLatin1", 151, ""), ("java/lang/StringUTF16", 295, ""), ("KindredBooksModel", 162, "bfpv"), ("KindredBooksModel", 164, "cgjkqsxz"), ("KindredBooksModel", 166, "dt"), ("KindredBooksModel", 168, "l"), ("KindredBooksModel", 170, "mn"), ("KindredBooksModel", 172, "\x72"), ("KindredBooksModel", 420, "nwpdt")]
def zfaces : List (String × MethodName × MethodName) := [("java/util/ArrayList", ⟨"java/util/List", "size", "()I"⟩, ⟨"java/util/ArrayList", "size", "()I"⟩), ("java/util/ArrayList", ⟨"java/util/List", "get", "(I)Ljava/lang/Object;"⟩, ⟨"java/util/ArrayList", "get", "(I)Ljava/lang/Object;"⟩), ("java/util/ArrayList", ⟨"java/util/List", "add", "(Ljava/lang/Object;)Z"⟩, ⟨"java/util/ArrayList", "add", "(Ljava/lang/Object;)Z"⟩), ("java/util/ArrayList", ⟨"java/util/List", "add", "(ILjava/lang/Object;)V"⟩, ⟨"java/util/ArrayList", "add", "(ILjava/lang/Object;)V"⟩), ("java/util/ArrayList", ⟨"java/util/List", "isEmpty", "()Z"⟩, ⟨"java/util/ArrayList", "isEmpty", "()Z"⟩), ("java/util/ArrayList", ⟨"java/util/List", "contains", "(Ljava/lang/Object;)Z"⟩, ⟨"java/util/ArrayList", "contains", "(Ljava/lang/Object;)Z"⟩), ("java/lang/String", ⟨"java/lang/CharSequence", "length", "()I"⟩, ⟨"java/lang/String", "length", "()I"⟩), ("java/lang/String", ⟨"java/lang/CharSequence", "charAt", "(I)C"⟩, ⟨"java/lang/String", "charAt", "(I)C"⟩), ("java/lang/StringBuilder", ⟨"java/lang/CharSequence", "length", "()I"⟩, ⟨"java/lang/StringBuilder", "length", "()I"⟩), ("java/lang/StringBuilder", ⟨"java/lang/CharSequence", "charAt", "(I)C"⟩, ⟨"java/lang/StringBuilder", "charAt", "(I)C"⟩)]
/-! WHAT THE TABLES SAY that no list of good words holds: links of nest mates, casts, declarations; String constants; array classes; calls by an interface -/
def isN : Cond → Bool
  | .fieldLinkNest .. | .methodLinkNest .. | .castable .. | .declares _ => true
  | _ => false
def N0 : List Cond := lw_tbl.filter isN
theorem N0_of {w : Cond} (h : w ∈ lw_tbl) (g : isN w = true) : w ∈ N0 := List.mem_filter.mpr ⟨h, g⟩
def zN (U : State) : Prop := ∀ w ∈ N0, va_Nw w U
theorem isN_on {w : Cond} (h : isN w = true) : w.onTables = true := by
  cases w <;> first | rfl | exact absurd h (by simp [isN])
theorem zN.same {u U : State} (hv : u.vm = U.vm) (h : zN u) : zN U := fun w hw => va_Nw.same (isN_on (List.mem_filter.mp hw).2) hv (h w hw)
theorem zN.warm {s U : State} (hW : s.WarmedH U.vm) (h : zN s) : zN U := by
  intro w hw
  have hi := (List.mem_filter.mp hw).2
  have hs := h w hw
  cases w <;> first | exact va_Nw.warmF hW hs | exact va_Nw.warmM hW hs | exact va_Nw.warmC hW hs | exact va_Nw.warmD hW hs | exact absurd hi (by simp [isN])
theorem zN.use {s : State} {args : Array Value} (h : zN s) : ∀ w ∈ N0, w.before args s = true := fun w hw => va_Nw.use (isN_on (List.mem_filter.mp hw).2) (h w hw)
def zR (U : State) : Prop := ∀ q ∈ zstrs, ∃ a : Nat, vk_R q.1 q.2.1 q.2.2 a U
theorem zR.same {u U : State} (hv : U.vm = u.vm) (h : zR u) : zR U := fun q hq => by
  obtain ⟨a, ha⟩ := h q hq
  exact ⟨a, vk_R.same hv ha⟩
theorem zR.warm {s U : State} (hW : s.WarmedH U.vm) (h : zR s) : zR U := fun q hq => by
  obtain ⟨a, ha⟩ := h q hq
  exact ⟨a, vk_R.warm hW ha⟩
def zocl : List String := ["KindredBooks$Change", "KindredBooks$Book", "KindredBooks$Kin", "KindredBooks$Line", "java/lang/Object", "java/lang/String"]
def zO (U : State) : Prop := ∀ C ∈ zocl, va_AO C U
theorem zO.moved {u U : State} (hv : u.vm.Alike U.vm) (h : zO u) : zO U := fun C hC => va_AO.moved hv (h C hC)
def zF (U : State) : Prop := ∀ q ∈ zfaces, va_Fw q.1 q.2.1 q.2.2 U
theorem zF_ok : ∀ q ∈ zfaces, q.2.1.cls ≠ "java/lang/invoke/MethodHandle" ∧ q.2.1.cls ≠ "java/lang/invoke/VarHandle" := by decide +kernel
theorem zF.moved {u U : State} (hv : u.vm.Alike U.vm) (h : zF u) : zF U := fun q hq => va_Fw.moved (zF_ok q hq) hv (h q hq)
def zT (U : State) : Prop := zN U ∧ zR U ∧ zO U ∧ zF U
theorem zT.same {u U : State} (hv : u.vm = U.vm) (h : zT u) : zT U := ⟨zN.same hv h.1, zR.same hv.symm h.2.1, zO.moved (by rw [hv]; exact Vm.Alike.refl _) h.2.2.1, zF.moved (by rw [hv]; exact Vm.Alike.refl _) h.2.2.2⟩
theorem zT.warm {s U : State} (hW : s.WarmedH U.vm) (h : zT s) : zT U := ⟨zN.warm hW h.1, zR.warm hW h.2.1, zO.moved hW.alike h.2.2.1, zF.moved hW.alike h.2.2.2⟩
/-! WHAT STANDS OUTSIDE every world: statics and what they hold -/
def zLEN : Nat → Value := fun j => .int (([31, 28, 31, 30, 31, 30, 31, 31, 30, 31, 30, 31] : List Int32).getD j 0)
def zE (dZ : Nat → Nat) (A : Nat → Prop) (U : State) (H : Heap) : Prop :=
  va_Z "java/lang/String" "COMPACT_STRINGS" "Z" (.int 1) A U H ∧ va_Z "java/util/ArrayList" "DEFAULTCAPACITY_EMPTY_ELEMENTDATA" "[Ljava/lang/Object;" (.ref (dZ 0)) A U H ∧ va_T (.object "java/lang/Object") (dZ 0) 0 (fun _ => .null) A U H ∧
  va_Z "KindredBooks$Calendar" "LENGTHS" "[I" (.ref (dZ 1)) A U H ∧ va_T .int (dZ 1) 12 zLEN A U H ∧ vx_Zq Bundle.tN "UNASSIGNED_STACK" Bundle.steD A U H ∧ vx_Zq Bundle.tN "SUPPRESSED_SENTINEL" Bundle.listD A U H
theorem zE.moved {dZ : Nat → Nat} {A : Nat → Prop} {u U : State} {H : Heap} (hv : u.vm.Alike U.vm) (h : zE dZ A u H) : zE dZ A U H := by
  obtain ⟨h1, h2, h3, h4, h5, h6, h7⟩ := h
  exact ⟨h1.moved hv, h2.moved hv, h3.moved hv, h4.moved hv, h5.moved hv, vx_Zq.moved hv h6, vx_Zq.moved hv h7⟩
theorem zE.kept {dZ : Nat → Nat} {A : Nat → Prop} {U : State} {H H1 : Heap} (h : zE dZ A U H) (hq : ∀ a : Nat, a < H.size → ¬ A a → H1[a]? = H[a]?) : zE dZ A U H1 := by
  obtain ⟨h1, h2, h3, h4, h5, h6, h7⟩ := h
  exact ⟨h1.kept hq, h2.kept hq, h3.kept hq, h4.kept hq, h5.kept hq, h6.kept hq, h7.kept hq⟩
theorem zE.narrow {dZ : Nat → Nat} {A B : Nat → Prop} {U : State} {H : Heap} (h : zE dZ A U H) (hq : ∀ q, B q → A q) : zE dZ B U H := by
  obtain ⟨h1, h2, h3, h4, h5, h6, h7⟩ := h
  exact ⟨h1.narrow hq, h2.narrow hq, h3.narrow hq, h4.narrow hq, h5.narrow hq, h6.narrow hq, h7.narrow hq⟩
abbrev zP (D : va_G) (dA : Nat → ClassId) (dZ : Nat → Nat) (w : va_W) (sz : Nat) : State → Prop := fun U => U.heap.size = sz ∧ va_P D zcl w U.heap ∧ va_K D zcl (tz dA) U ∧ va_D (fun _ => True) w ∧ zT U ∧ zE dZ (va_A w sz) U U.heap
abbrev zB (D : va_G) (A : Nat → Prop) (w : va_W) (t : State) : Prop := va_P D zcl w t.heap ∧ va_D A w
theorem zblind {D : va_G} {dA : Nat → ClassId} {dZ : Nat → Nat} {w : va_W} {sz : Nat} {as : List Value} : FrameBlind (va_Pc as (zP D dA dZ w sz)) := fun a U g mk q => by
  obtain ⟨q0, q1, qP, qK, qD, qT, qE⟩ := q
  exact ⟨q0, q1, qP, va_K.moved (u := U) (U := U.calling g mk a) (Vm.Alike.refl U.vm) qK, qD, zT.same (u := U) (U := U.calling g mk a) rfl qT, zE.moved (u := U) (U := U.calling g mk a) (Vm.Alike.refl U.vm) qE⟩
theorem zPreS {s : State} {H : Heap} {D : va_G} {dA : Nat → ClassId} {dZ : Nat → Nat} {w : va_W} {A : Nat → Prop} {as : List Value} {locs : List Loc} (hP : va_P D zcl w H) (hK : va_K D zcl (tz dA) s) (hD : va_D A w) (hT : zT s) (hE : zE dZ A s s.heap) (hS : va_S A s.heap H locs) (hF : ∀ q, va_A w H.size q → A q) : PreS s H (va_Pc as (zP D dA dZ w H.size)) as :=
  ⟨zblind, fun U hU hW => ⟨rfl, by rw [hU], by rw [hU]; exact hP, va_K.moved hW.alike hK, hD.weaken (fun _ _ _ _ => trivial), hT.warm hW, by rw [hU]; exact ((hE.kept hS.2.1).narrow hF).moved hW.alike⟩⟩
theorem zPreV {s : State} {H : Heap} {D : va_G} {dA : Nat → ClassId} {dZ : Nat → Nat} {w : va_W} {A : Nat → Prop} {C : String} {b : Nat} {as : List Value} {locs : List Loc} (hP : va_P D zcl w H) (hK : va_K D zcl (tz dA) s) (hD : va_D A w) (hT : zT s) (hE : zE dZ A s s.heap) (hS : va_S A s.heap H locs) (hF : ∀ q, va_A w H.size q → A q) (hr : ∃ cell : Cell, H[b]? = some cell ∧ cell.vm.isStatics = false ∧ s.vm.findClass C = some cell.cls) : PreV s H C b (va_Pc (.ref b :: as) (zP D dA dZ w H.size)) as :=
  ⟨zblind, hr, (zPreS hP hK hD hT hE hS hF).2⟩
/-- a way out by an exception: which, and that nothing outside was written -/
def zX (E0 : String) (A : Nat → Prop) : String → State → State → Prop := fun E st t => E = E0 ∧ va_F A st t
def zNo : Array Value → State → Outcome → State → Prop := fun _ _ _ _ => False
theorem zX_of {A : Nat → Prop} {s t : State} {H : Heap} {locs : List Loc} {E0 : String} (hS : va_S A s.heap H locs) (h1 : H.size ≤ t.heap.size) (h2 : ∀ q : Nat, q < H.size → t.heap[q]? = H[q]?) : zX E0 A E0 s t := ⟨rfl, Nat.le_trans hS.1 h1, fun q hq hA => (h2 q (Nat.lt_of_lt_of_le hq hS.1)).trans (hS.2.1 q hq hA)⟩
theorem zX_at {A : Nat → Prop} {s t : State} {H : Heap} {locs : List Loc} {E0 : String} (hS : va_S A s.heap H locs) (h1 : t.heap = H) : zX E0 A E0 s t := zX_of hS (by rw [h1]; exact Nat.le_refl _) (fun q _ => by rw [h1])
theorem zx_call {p : Program} {l : Launch} {e : Env} {R : Room} {s : State} {m : MethodId} {args : Array Value} {below : List Frame} {meth : Method} {c : Code} {H : Heap} {locs : List Loc} {cells slots mc ms : Nat} {Q : State → Prop} {pc : Nat} {ls : Array Slot} {st0 rest : List Value} {E0 : String} {A0 A1 : Nat → Prop} {H0 : Heap} {free : Addr → Prop}
    (hr : vx_Run p l e R s m args below meth c H locs cells slots mc ms (F0 m pc ls st0) rest (fun _ _ _ => False) (zX E0 A1) free) (hS : va_S A0 H0 H locs) (hA : ∀ q, q < H.size → A1 q → A0 q) (hf : ∀ q, free q → A0 q)
    (kx : ∀ (ce : Cell) (q9 : Addr) (H1 : Heap) (locs1 : List Loc), H.size ≤ H1.size → (∀ q : Nat, q < H.size → ¬ A1 q → H1[q]? = H[q]?) → va_S A0 H0 H1 locs1 → H1[q9]? = some ce → ce.vm = .none → s.vm.findClass E0 = some ce.cls → vx_W p l e R s m args below meth c H1 locs1 (cells + mc) (slots + ms) Q (F0 m pc ls rest) q9) : W p l e R s m args below meth c H locs cells slots Q (F0 m pc ls st0) := by
  intro T hT X
  rcases hr T hT X with ⟨v, st₀, t, T', L, h0, X', hL, e1, e2, hq, st⟩ | ⟨q, st₀, t, T', L, E, ce, h0, X', hL, e1, e2, ⟨rfl, hF⟩, hce, hcv, hcl, st⟩
  · exact hq.elim
  · obtain ⟨k1, k2, k3⟩ := vx_keep h0 e1 hS hA hf hL hF
    obtain ⟨t2, a1, b1⟩ := kx ce q T'.heap (locs ++ L) k1 k2 k3 (by rw [e1]; exact hce) hcv hcl T' rfl X'
    exact ⟨t2, st.trans a1, b1⟩
theorem z_at {own : String} {ic : Nat} {X : String} {names : List String} {s : State} {args : Array Value} (hw : ∀ w ∈ W0, w.before args s = true) (hN : zN s) (h : ∀ w ∈ vx_atS own ic X names, w ∈ lw_tbl ∧ (goodWord w || isN w) = true) : ∀ w ∈ vx_atS own ic X names, w.before args s = true := fun w hm => by
  obtain ⟨h1, h2⟩ := h w hm
  rcases Bool.or_eq_true _ _ |>.mp h2 with h3 | h3
  · exact hw w (W0_of h1 h3)
  · exact hN.use w (N0_of h1 h3)

theorem z_cwV {R : Room} {s : State} {args : Array Value} {own C : String} {index : Nat} {y : MethodName} {bytes : ByteArray} {maxL : Nat} {ret : Option FieldType} {rm : Room} {mc ms : Nat} (n : Nat) (hw : ∀ w ∈ W0, w.before args s = true) (h1 : Cond.methodLink own index y ∈ W0) (h2 : Cond.instanceMethod y ∈ W0) (h3 : Cond.selects C y y ∈ W0) (h4 : Cond.initialized C ∈ W0) (h5 : Cond.code y bytes maxL ret ∈ W0) (hrc : rm.cells = mc) (hrs : rm.slots = ms)
    (hd : y.cls = C ∧ y.cls ≠ "java/lang/invoke/MethodHandle" ∧ y.cls ≠ "java/lang/invoke/VarHandle" ∧ (parseMethodDescriptor y.desc).map (fun d => d.parameters.length) = some n) (hR : rm.frames + 1 ≤ R.frames ∧ 8 + (maxL + 11) + rm.locals ≤ R.locals) : CallW R s args own C index y bytes maxL ret (wz y bytes maxL ret) rm mc ms n :=
  cwV n hw (fun w hw => by
    have g : ∀ {w : Cond}, w ∈ W0 → w ∈ W0 ∧ ((w.onTables && w.keeps) = true ∨ ∃ ty, w = .arrayClass ty) := fun h => ⟨h, good_of_word (W0_good h)⟩
    rcases List.mem_append.mp hw with hq | hq
    · simp only [List.mem_cons, List.not_mem_nil, or_false] at hq
      rcases hq with rfl | rfl | rfl | rfl
      · exact g h1
      · exact g h2
      · exact g h3
      · exact g h4
    · exact wz_in h5 w hq) rfl hrc hrs hd hR
theorem z_cwS {R : Room} {s : State} {args : Array Value} {own : String} {index : Nat} {y : MethodName} {bytes : ByteArray} {maxL : Nat} {ret : Option FieldType} {rm : Room} {mc ms : Nat} (n : Nat) (hw : ∀ w ∈ W0, w.before args s = true) (h1 : Cond.methodLink own index y ∈ W0) (h2 : Cond.static y ∈ W0) (h4 : Cond.initialized y.cls ∈ W0) (h5 : Cond.code y bytes maxL ret ∈ W0) (hrc : rm.cells = mc) (hrs : rm.slots = ms)
    (hd : y.cls ≠ "java/lang/invoke/MethodHandle" ∧ y.cls ≠ "java/lang/invoke/VarHandle" ∧ (parseMethodDescriptor y.desc).map (fun d => d.parameters.length) = some n) (hR : rm.frames + 1 ≤ R.frames ∧ 8 + (maxL + 11) + rm.locals ≤ R.locals) : CallB R s args own index y bytes maxL ret (wz y bytes maxL ret) rm mc ms n ∧ (Cond.static y).before args s = true :=
  ⟨callB_of n hw (wz_in h5) rfl hrc hrs (hw _ h4) (hw _ h1) hd hR, hw _ h2⟩
theorem z_cwI {R : Room} {s : State} {args : Array Value} {own : String} {index : Nat} {y : MethodName} {bytes : ByteArray} {maxL : Nat} {rm : Room} {mc ms : Nat} (n : Nat) (hw : ∀ w ∈ W0, w.before args s = true) (h1 : Cond.methodLink own index y ∈ W0) (h2 : Cond.instanceMethod y ∈ W0) (h4 : Cond.initialized y.cls ∈ W0) (h5 : Cond.code y bytes maxL none ∈ W0) (hrc : rm.cells = mc) (hrs : rm.slots = ms) (hy1 : y.name = "<init>")
    (hd : y.cls ≠ "java/lang/invoke/MethodHandle" ∧ y.cls ≠ "java/lang/invoke/VarHandle" ∧ (parseMethodDescriptor y.desc).map (fun d => d.parameters.length) = some n) (hR : rm.frames + 1 ≤ R.frames ∧ 8 + (maxL + 11) + rm.locals ≤ R.locals) : CallB R s args own index y bytes maxL none (wz y bytes maxL none) rm mc ms n ∧ y.name = "<init>" ∧ (Cond.instanceMethod y).before args s = true :=
  cwI n hw (wz_in h5) rfl hrc hrs (hw _ h4) (hw _ h1) (hw _ h2) hy1 hd hR
theorem z_cwVN {R : Room} {s : State} {args : Array Value} {own C : String} {index : Nat} {y : MethodName} {host : String} {bytes : ByteArray} {maxL : Nat} {ret : Option FieldType} {rm : Room} {mc ms : Nat} (n : Nat) (hw : ∀ w ∈ W0, w.before args s = true) (hN : zN s) (h1 : Cond.methodLinkNest own index y host ∈ N0) (h2 : Cond.instanceMethod y ∈ W0) (h3 : Cond.selects C y y ∈ W0) (h4 : Cond.initialized y.cls ∈ W0) (h5 : Cond.code y bytes maxL ret ∈ W0) (hrc : rm.cells = mc) (hrs : rm.slots = ms)
    (hd : y.cls ≠ "java/lang/invoke/MethodHandle" ∧ y.cls ≠ "java/lang/invoke/VarHandle" ∧ (parseMethodDescriptor y.desc).map (fun d => d.parameters.length) = some n) (hR : rm.frames + 1 ≤ R.frames ∧ 8 + (maxL + 11) + rm.locals ≤ R.locals) : va_CN R s args own index y host bytes maxL ret (wz y bytes maxL ret) rm mc ms n ∧ (Cond.instanceMethod y).before args s = true ∧ (Cond.selects C y y).before args s = true :=
  ⟨va_cnB n hw (wz_in h5) rfl hrc hrs (hN _ h1) (hw _ h4) hd hR, hw _ h2, hw _ h3⟩
theorem z_cwSN {R : Room} {s : State} {args : Array Value} {own : String} {index : Nat} {y : MethodName} {host : String} {bytes : ByteArray} {maxL : Nat} {ret : Option FieldType} {rm : Room} {mc ms : Nat} (n : Nat) (hw : ∀ w ∈ W0, w.before args s = true) (hN : zN s) (h1 : Cond.methodLinkNest own index y host ∈ N0) (h2 : Cond.static y ∈ W0) (h4 : Cond.initialized y.cls ∈ W0) (h5 : Cond.code y bytes maxL ret ∈ W0) (hrc : rm.cells = mc) (hrs : rm.slots = ms)
    (hd : y.cls ≠ "java/lang/invoke/MethodHandle" ∧ y.cls ≠ "java/lang/invoke/VarHandle" ∧ (parseMethodDescriptor y.desc).map (fun d => d.parameters.length) = some n) (hR : rm.frames + 1 ≤ R.frames ∧ 8 + (maxL + 11) + rm.locals ≤ R.locals) : va_CN R s args own index y host bytes maxL ret (wz y bytes maxL ret) rm mc ms n ∧ (Cond.static y).before args s = true ∧ True :=
  ⟨va_cnB n hw (wz_in h5) rfl hrc hrs (hN _ h1) (hw _ h4) hd hR, hw _ h2, trivial⟩
theorem z_cwIN {R : Room} {s : State} {args : Array Value} {own : String} {index : Nat} {y : MethodName} {host : String} {bytes : ByteArray} {maxL : Nat} {rm : Room} {mc ms : Nat} (n : Nat) (hw : ∀ w ∈ W0, w.before args s = true) (hN : zN s) (h1 : Cond.methodLinkNest own index y host ∈ N0) (h2 : Cond.instanceMethod y ∈ W0) (h4 : Cond.initialized y.cls ∈ W0) (h5 : Cond.code y bytes maxL none ∈ W0) (hrc : rm.cells = mc) (hrs : rm.slots = ms) (hy1 : y.name = "<init>")
    (hd : y.cls ≠ "java/lang/invoke/MethodHandle" ∧ y.cls ≠ "java/lang/invoke/VarHandle" ∧ (parseMethodDescriptor y.desc).map (fun d => d.parameters.length) = some n) (hR : rm.frames + 1 ≤ R.frames ∧ 8 + (maxL + 11) + rm.locals ≤ R.locals) : va_CN R s args own index y host bytes maxL none (wz y bytes maxL none) rm mc ms n ∧ y.name = "<init>" ∧ (Cond.instanceMethod y).before args s = true :=
  ⟨va_cnB n hw (wz_in h5) rfl hrc hrs (hN _ h1) (hw _ h4) hd hR, hy1, hw _ h2⟩
theorem z_RA {U : State} {a b : ClassId} {ty : FieldType} (h1 : va_RA U a ty) (h2 : va_RA U b ty) : a = b := by
  cases ty with
  | object C =>
    obtain ⟨_, _, _, _, _, h3⟩ := h1
    obtain ⟨_, _, _, _, _, h4⟩ := h2
    exact Option.some.inj (h3.symm.trans h4)
  | _ => exact Option.some.inj (Eq.trans (Eq.symm h1) h2)
section ZNEW
variable {p : Program} {l : Launch} {e : Env} {R : Room} {s : State} {m : MethodId} {args : Array Value} {below : List Frame} {meth : Method} {c : Code} {H : Heap} {locs : List Loc} {cells slots : Nat} {Q : State → Prop} {cc : ByteArray} {D : va_G} {cl : List vw_C} {ws : va_W} {tys : List (ClassId × FieldType)} {A : Nat → Prop} {H0 : Heap} {pc : Nat} {ls : Array Slot} {rest : List Value}
/-- a new array of numbers, of one of the classes that are known already -/
theorem zz_newa (hexec : p.tables.exec = Jvm.exec) (hb : c.code = cc) {atype : ArrayType} (harr : (Cond.arrayClass (newarray.typeOf atype)).before args s = true) {ty : FieldType} (hty : newarray.typeOf atype = ty) (hK : va_K D cl tys s) {t : Nat} {cB : ClassId} (ht : tys[t]? = some (cB, ty)) (hP : va_P D cl ws H) (hD : va_D A ws) (hS : va_S A H0 H locs) (hA : ∀ q, H0.size ≤ q → A q)
    {n : Int32} {N' : Nat} {a0 : vp_A} (ha : ∀ cA : ClassId, vp_cell cA a0 = arrV cA N' (fun _ => defaultValue ty)) (hn : ¬ n < 0) (hN : n.toNatClampNeg = N') (hbytes : N' * componentBytes ty ≤ 536870912) (hcells : cells + 1 ≤ R.cells) (hslots : slots + N' ≤ R.slots) (hdg : decode cc pc = .ok (.newarray atype, 2))
    (kk : ∀ (q : Nat) (H1 : Heap), va_P D cl (ws ++ [(q, .inl (cB, a0))]) H1 → va_D A (ws ++ [(q, .inl (cB, a0))]) → va_S A H0 H1 locs →
      W p l e R s m args below meth c H1 locs (cells + 1) (slots + N') Q (F0 m (pc + 2) ls (.ref q :: rest))) : W p l e R s m args below meth c H locs cells slots Q (F0 m pc ls (.int n :: rest)) :=
  va_newa hexec hb harr hty hK hP hD hS hA ha hn hN hbytes hcells hslots hdg (fun q cA H1 hK1 hP1 hD1 hS1 => by
    have h1 := (hK1.2 tys.length (cA, ty) (by rw [List.getElem?_append_right (Nat.le_refl _), Nat.sub_self]; rfl)).2
    obtain rfl : cA = cB := z_RA h1 (hK.2 t _ ht).2
    exact kk q H1 hP1 hD1 hS1)
/-- a new array of references, of one of the classes that are known already -/
theorem zz_newq (hexec : p.tables.exec = Jvm.exec) (hb : c.code = cc) {own C : String} {index : Nat} (hown : s.vm.findClass own = some m.cls) (hclink : (Cond.classLink own index C).before args s = true) (hover : (Cond.arrayOver (.object C)).before args s = true) (hK : va_K D cl tys s) {t : Nat} {cB : ClassId} (ht : tys[t]? = some (cB, .object C)) (hP : va_P D cl ws H) (hD : va_D A ws) (hS : va_S A H0 H locs) (hA : ∀ q, H0.size ≤ q → A q)
    {n : Int32} {N' : Nat} (hn : ¬ n < 0) (hN : n.toNatClampNeg = N') (hbytes : N' * 4 ≤ 536870912) (hcells : cells + 1 ≤ R.cells) (hslots : slots + N' ≤ R.slots) (hdg : decode cc pc = .ok (.anewarray index, 3))
    (kk : ∀ (q : Nat) (H1 : Heap), va_P D cl (ws ++ [(q, .inl (cB, N', .inr (.inr (.inr (.inr (fun _ => none))))))]) H1 → va_D A (ws ++ [(q, .inl (cB, N', .inr (.inr (.inr (.inr (fun _ => none))))))]) → va_S A H0 H1 locs →
      W p l e R s m args below meth c H1 locs (cells + 1) (slots + N') Q (F0 m (pc + 3) ls (.ref q :: rest))) : W p l e R s m args below meth c H locs cells slots Q (F0 m pc ls (.int n :: rest)) :=
  va_newq hexec hb hown hclink (va_AO.of hover) hK hP hD hS hA hn hN hbytes hcells hslots hdg (fun q cA H1 hK1 hP1 hD1 hS1 => by
    have h1 := (hK1.2 tys.length (cA, .object C) (by rw [List.getElem?_append_right (Nat.le_refl _), Nat.sub_self]; rfl)).2
    obtain rfl : cA = cB := z_RA h1 (hK.2 t _ ht).2
    exact kk q H1 hP1 hD1 hS1)
end ZNEW

