abbrev cX5_refresh : ByteArray := prog_7_method_2_code
def yX5_refresh : MethodName := ⟨"KindredBooks$Kin", "refresh", "()V"⟩
theorem mw_870 : (Jvm.Cond.code ({ cls := "KindredBooks$Kin", name := "refresh", desc := "()V" } : Jvm.MethodName) prog_7_method_2_code (2 : Nat) (Option.none : Option Jvm.ClassFile.FieldType)) ∈ W0 := W0_of (List.mem_append_right _ (List.mem_of_getElem? (i := 870) (by decide +kernel))) rfl
theorem dX5_refresh_0 : decode cX5_refresh 0 = .ok (.aload_n 0, 1) := by decide +kernel
theorem dX5_refresh_1 : decode cX5_refresh 1 = .ok (.getfield 40, 3) := by decide +kernel
theorem mw_318 : (Jvm.Cond.fieldLink "KindredBooks$Kin" (40 : Nat) "KindredBooks$Kin" "freshVersion" "I") ∈ W0 := W0_of (List.mem_append_right _ (List.mem_of_getElem? (i := 318) (by decide +kernel))) rfl
theorem dX5_refresh_4 : decode cX5_refresh 4 = .ok (.aload_n 0, 1) := by decide +kernel
theorem dX5_refresh_5 : decode cX5_refresh 5 = .ok (.getfield 44, 3) := by decide +kernel
theorem dX5_refresh_8 : decode cX5_refresh 8 = .ok (.getfield 52, 3) := by decide +kernel
theorem mn_279 : (Jvm.Cond.fieldLinkNest "KindredBooks$Kin" (52 : Nat) "KindredBooks$Book" "version" "I" "KindredBooks") ∈ N0 := N0_of (List.mem_append_right _ (List.mem_of_getElem? (i := 279) (by decide +kernel))) rfl
theorem dX5_refresh_11 : decode cX5_refresh 11 = .ok (.if_icmp .ne 4, 3) := by decide +kernel
theorem dX5_refresh_15 : decode cX5_refresh 15 = .ok (.aload_n 0, 1) := by decide +kernel
theorem dX5_refresh_16 : decode cX5_refresh 16 = .ok (.aload_n 0, 1) := by decide +kernel
theorem dX5_refresh_17 : decode cX5_refresh 17 = .ok (.getfield 44, 3) := by decide +kernel
theorem dX5_refresh_20 : decode cX5_refresh 20 = .ok (.getfield 52, 3) := by decide +kernel
theorem dX5_refresh_23 : decode cX5_refresh 23 = .ok (.putfield 40, 3) := by decide +kernel
theorem dX5_refresh_26 : decode cX5_refresh 26 = .ok (.aload_n 0, 1) := by decide +kernel
theorem dX5_refresh_27 : decode cX5_refresh 27 = .ok (.invokevirtual 57, 3) := by decide +kernel
theorem mw_871 : (Jvm.Cond.methodLink "KindredBooks$Kin" (57 : Nat) ({ cls := "KindredBooks$Kin", name := "joinEntries", desc := "()V" } : Jvm.MethodName)) ∈ W0 := W0_of (List.mem_append_right _ (List.mem_of_getElem? (i := 871) (by decide +kernel))) rfl
theorem mw_873 : (Jvm.Cond.instanceMethod ({ cls := "KindredBooks$Kin", name := "joinEntries", desc := "()V" } : Jvm.MethodName)) ∈ W0 := W0_of (List.mem_append_right _ (List.mem_of_getElem? (i := 873) (by decide +kernel))) rfl
theorem ms_18 : Cond.selects "KindredBooks$Kin" (⟨"KindredBooks$Kin", "joinEntries", "()V"⟩ : MethodName) (⟨"KindredBooks$Kin", "joinEntries", "()V"⟩ : MethodName) ∈ W0 := W0_of (List.mem_append_left _ (List.mem_of_getElem? (i := 18) (by decide +kernel))) rfl
theorem mw_10 : (Jvm.Cond.initialized "KindredBooks$Kin") ∈ W0 := W0_of (List.mem_append_right _ (List.mem_of_getElem? (i := 10) (by decide +kernel))) rfl
theorem dX5_refresh_30 : decode cX5_refresh 30 = .ok (.aload_n 0, 1) := by decide +kernel
theorem dX5_refresh_31 : decode cX5_refresh 31 = .ok (.invokevirtual 60, 3) := by decide +kernel
theorem mw_895 : (Jvm.Cond.methodLink "KindredBooks$Kin" (60 : Nat) ({ cls := "KindredBooks$Kin", name := "listGroups", desc := "()V" } : Jvm.MethodName)) ∈ W0 := W0_of (List.mem_append_right _ (List.mem_of_getElem? (i := 895) (by decide +kernel))) rfl
theorem mw_897 : (Jvm.Cond.instanceMethod ({ cls := "KindredBooks$Kin", name := "listGroups", desc := "()V" } : Jvm.MethodName)) ∈ W0 := W0_of (List.mem_append_right _ (List.mem_of_getElem? (i := 897) (by decide +kernel))) rfl
theorem ms_20 : Cond.selects "KindredBooks$Kin" (⟨"KindredBooks$Kin", "listGroups", "()V"⟩ : MethodName) (⟨"KindredBooks$Kin", "listGroups", "()V"⟩ : MethodName) ∈ W0 := W0_of (List.mem_append_left _ (List.mem_of_getElem? (i := 20) (by decide +kernel))) rfl
theorem dX5_refresh_34 : decode cX5_refresh 34 = .ok (.aload_n 0, 1) := by decide +kernel
theorem dX5_refresh_35 : decode cX5_refresh 35 = .ok (.invokevirtual 63, 3) := by decide +kernel
theorem mw_899 : (Jvm.Cond.methodLink "KindredBooks$Kin" (63 : Nat) ({ cls := "KindredBooks$Kin", name := "placeLines", desc := "()V" } : Jvm.MethodName)) ∈ W0 := W0_of (List.mem_append_right _ (List.mem_of_getElem? (i := 899) (by decide +kernel))) rfl
theorem mw_901 : (Jvm.Cond.instanceMethod ({ cls := "KindredBooks$Kin", name := "placeLines", desc := "()V" } : Jvm.MethodName)) ∈ W0 := W0_of (List.mem_append_right _ (List.mem_of_getElem? (i := 901) (by decide +kernel))) rfl
theorem ms_21 : Cond.selects "KindredBooks$Kin" (⟨"KindredBooks$Kin", "placeLines", "()V"⟩ : MethodName) (⟨"KindredBooks$Kin", "placeLines", "()V"⟩ : MethodName) ∈ W0 := W0_of (List.mem_append_left _ (List.mem_of_getElem? (i := 21) (by decide +kernel))) rfl
theorem dX5_refresh_38 : decode cX5_refresh 38 = .ok (.iconst 0, 1) := by decide +kernel
theorem dX5_refresh_39 : decode cX5_refresh 39 = .ok (.istore_n 1, 1) := by decide +kernel
theorem dX5_refresh_40 : decode cX5_refresh 40 = .ok (.iload_n 1, 1) := by decide +kernel
theorem dX5_refresh_41 : decode cX5_refresh 41 = .ok (.aload_n 0, 1) := by decide +kernel
theorem dX5_refresh_42 : decode cX5_refresh 42 = .ok (.getfield 66, 3) := by decide +kernel
theorem dX5_refresh_45 : decode cX5_refresh 45 = .ok (.if_icmp .ge 18, 3) := by decide +kernel
theorem dX5_refresh_63 : decode cX5_refresh 63 = .ok (.return_, 1) := by decide +kernel
theorem dX11_kinOf_20 : decode cX11_kinOf 20 = .ok (.aload_n 0, 1) := by decide +kernel
theorem dX11_kinOf_21 : decode cX11_kinOf 21 = .ok (.getfield 39, 3) := by decide +kernel
theorem mw_351 : (Jvm.Cond.fieldLink "KindredBooks" (39 : Nat) "KindredBooks" "kins" "[LKindredBooks$Kin;") ∈ W0 := W0_of (List.mem_append_right _ (List.mem_of_getElem? (i := 351) (by decide +kernel))) rfl
theorem dX11_kinOf_24 : decode cX11_kinOf 24 = .ok (.iload_n 1, 1) := by decide +kernel
theorem dX11_kinOf_25 : decode cX11_kinOf 25 = .ok (.aaload, 1) := by decide +kernel
theorem dX11_kinOf_26 : decode cX11_kinOf 26 = .ok (.invokevirtual 397, 3) := by decide +kernel
theorem mw_867 : (Jvm.Cond.methodLink "KindredBooks" (397 : Nat) ({ cls := "KindredBooks$Kin", name := "refresh", desc := "()V" } : Jvm.MethodName)) ∈ W0 := W0_of (List.mem_append_right _ (List.mem_of_getElem? (i := 867) (by decide +kernel))) rfl
theorem mw_868 : (Jvm.Cond.instanceMethod ({ cls := "KindredBooks$Kin", name := "refresh", desc := "()V" } : Jvm.MethodName)) ∈ W0 := W0_of (List.mem_append_right _ (List.mem_of_getElem? (i := 868) (by decide +kernel))) rfl
theorem mw_869 : (Jvm.Cond.selects "KindredBooks$Kin" ({ cls := "KindredBooks$Kin", name := "refresh", desc := "()V" } : Jvm.MethodName) ({ cls := "KindredBooks$Kin", name := "refresh", desc := "()V" } : Jvm.MethodName)) ∈ W0 := W0_of (List.mem_append_right _ (List.mem_of_getElem? (i := 869) (by decide +kernel))) rfl
theorem dX11_kinOf_29 : decode cX11_kinOf 29 = .ok (.aload_n 0, 1) := by decide +kernel
theorem dX11_kinOf_30 : decode cX11_kinOf 30 = .ok (.getfield 39, 3) := by decide +kernel
theorem dX11_kinOf_33 : decode cX11_kinOf 33 = .ok (.iload_n 1, 1) := by decide +kernel
theorem dX11_kinOf_34 : decode cX11_kinOf 34 = .ok (.aaload, 1) := by decide +kernel
theorem dX11_kinOf_35 : decode cX11_kinOf 35 = .ok (.areturn, 1) := by decide +kernel
abbrev cX11_clearText : ByteArray := prog_1_method_3_code
def yX11_clearText : MethodName := ⟨"KindredBooks", "clearText", "()I"⟩
theorem mw_386 : (Jvm.Cond.code ({ cls := "KindredBooks", name := "clearText", desc := "()I" } : Jvm.MethodName) prog_1_method_3_code (2 : Nat) (Option.some Jvm.ClassFile.FieldType.int)) ∈ W0 := W0_of (List.mem_append_right _ (List.mem_of_getElem? (i := 386) (by decide +kernel))) rfl
theorem dX11_clearText_0 : decode cX11_clearText 0 = .ok (.aload_n 0, 1) := by decide +kernel
theorem dX11_clearText_1 : decode cX11_clearText 1 = .ok (.getfield 14, 3) := by decide +kernel
theorem mw_346 : (Jvm.Cond.fieldLink "KindredBooks" (14 : Nat) "KindredBooks" "text" "LKindredBooks$Text;") ∈ W0 := W0_of (List.mem_append_right _ (List.mem_of_getElem? (i := 346) (by decide +kernel))) rfl
theorem dX11_clearText_4 : decode cX11_clearText 4 = .ok (.getfield 82, 3) := by decide +kernel
theorem mn_59 : (Jvm.Cond.fieldLinkNest "KindredBooks" (82 : Nat) "KindredBooks$Text" "length" "I" "KindredBooks") ∈ N0 := N0_of (List.mem_append_right _ (List.mem_of_getElem? (i := 59) (by decide +kernel))) rfl
theorem dX11_clearText_7 : decode cX11_clearText 7 = .ok (.istore_n 1, 1) := by decide +kernel
theorem dX11_clearText_8 : decode cX11_clearText 8 = .ok (.aload_n 0, 1) := by decide +kernel
theorem dX11_clearText_9 : decode cX11_clearText 9 = .ok (.getfield 14, 3) := by decide +kernel
theorem dX11_clearText_12 : decode cX11_clearText 12 = .ok (.invokevirtual 95, 3) := by decide +kernel
theorem mw_387 : (Jvm.Cond.methodLink "KindredBooks" (95 : Nat) ({ cls := "KindredBooks$Text", name := "empty", desc := "()V" } : Jvm.MethodName)) ∈ W0 := W0_of (List.mem_append_right _ (List.mem_of_getElem? (i := 387) (by decide +kernel))) rfl
theorem mw_388 : (Jvm.Cond.instanceMethod ({ cls := "KindredBooks$Text", name := "empty", desc := "()V" } : Jvm.MethodName)) ∈ W0 := W0_of (List.mem_append_right _ (List.mem_of_getElem? (i := 388) (by decide +kernel))) rfl
theorem mw_389 : (Jvm.Cond.selects "KindredBooks$Text" ({ cls := "KindredBooks$Text", name := "empty", desc := "()V" } : Jvm.MethodName) ({ cls := "KindredBooks$Text", name := "empty", desc := "()V" } : Jvm.MethodName)) ∈ W0 := W0_of (List.mem_append_right _ (List.mem_of_getElem? (i := 389) (by decide +kernel))) rfl
theorem mw_2 : (Jvm.Cond.initialized "KindredBooks$Text") ∈ W0 := W0_of (List.mem_append_right _ (List.mem_of_getElem? (i := 2) (by decide +kernel))) rfl
theorem dX11_clearText_15 : decode cX11_clearText 15 = .ok (.iload_n 1, 1) := by decide +kernel
theorem dX11_clearText_16 : decode cX11_clearText 16 = .ok (.ireturn, 1) := by decide +kernel
abbrev cX11_changes : ByteArray := prog_1_method_14_code
def yX11_changes : MethodName := ⟨"KindredBooks", "changes", "()I"⟩
theorem mw_394 : (Jvm.Cond.code ({ cls := "KindredBooks", name := "changes", desc := "()I" } : Jvm.MethodName) prog_1_method_14_code (1 : Nat) (Option.some Jvm.ClassFile.FieldType.int)) ∈ W0 := W0_of (List.mem_append_right _ (List.mem_of_getElem? (i := 394) (by decide +kernel))) rfl
theorem dX11_changes_0 : decode cX11_changes 0 = .ok (.aload_n 0, 1) := by decide +kernel
theorem dX11_changes_1 : decode cX11_changes 1 = .ok (.getfield 27, 3) := by decide +kernel
theorem dX11_changes_4 : decode cX11_changes 4 = .ok (.getfield 103, 3) := by decide +kernel
theorem dX11_changes_7 : decode cX11_changes 7 = .ok (.ireturn, 1) := by decide +kernel
abbrev cX11_entry : ByteArray := prog_1_method_5_code
def yX11_entry : MethodName := ⟨"KindredBooks", "entry", "(I)I"⟩
theorem mw_602 : (Jvm.Cond.code ({ cls := "KindredBooks", name := "entry", desc := "(I)I" } : Jvm.MethodName) prog_1_method_5_code (3 : Nat) (Option.some Jvm.ClassFile.FieldType.int)) ∈ W0 := W0_of (List.mem_append_right _ (List.mem_of_getElem? (i := 602) (by decide +kernel))) rfl
theorem dX11_entry_0 : decode cX11_entry 0 = .ok (.aload_n 0, 1) := by decide +kernel
theorem dX11_entry_1 : decode cX11_entry 1 = .ok (.iload_n 1, 1) := by decide +kernel
theorem dX11_entry_2 : decode cX11_entry 2 = .ok (.invokevirtual 124, 3) := by decide +kernel
theorem mw_603 : (Jvm.Cond.methodLink "KindredBooks" (124 : Nat) ({ cls := "KindredBooks", name := "bookOf", desc := "(I)LKindredBooks$Book;" } : Jvm.MethodName)) ∈ W0 := W0_of (List.mem_append_right _ (List.mem_of_getElem? (i := 603) (by decide +kernel))) rfl
theorem mw_605 : (Jvm.Cond.instanceMethod ({ cls := "KindredBooks", name := "bookOf", desc := "(I)LKindredBooks$Book;" } : Jvm.MethodName)) ∈ W0 := W0_of (List.mem_append_right _ (List.mem_of_getElem? (i := 605) (by decide +kernel))) rfl
theorem ms_3 : Cond.selects "KindredBooks" (⟨"KindredBooks", "bookOf", "(I)LKindredBooks$Book;"⟩ : MethodName) (⟨"KindredBooks", "bookOf", "(I)LKindredBooks$Book;"⟩ : MethodName) ∈ W0 := W0_of (List.mem_append_left _ (List.mem_of_getElem? (i := 3) (by decide +kernel))) rfl
theorem mw_1 : (Jvm.Cond.initialized "KindredBooks") ∈ W0 := W0_of (List.mem_append_right _ (List.mem_of_getElem? (i := 1) (by decide +kernel))) rfl
abbrev cX11_undo : ByteArray := prog_1_method_12_code
def yX11_undo : MethodName := ⟨"KindredBooks", "undo", "(I)I"⟩
theorem mw_805 : (Jvm.Cond.code ({ cls := "KindredBooks", name := "undo", desc := "(I)I" } : Jvm.MethodName) prog_1_method_12_code (4 : Nat) (Option.some Jvm.ClassFile.FieldType.int)) ∈ W0 := W0_of (List.mem_append_right _ (List.mem_of_getElem? (i := 805) (by decide +kernel))) rfl
theorem dX11_undo_0 : decode cX11_undo 0 = .ok (.aload_n 0, 1) := by decide +kernel
theorem dX11_undo_1 : decode cX11_undo 1 = .ok (.iload_n 1, 1) := by decide +kernel
theorem dX11_undo_2 : decode cX11_undo 2 = .ok (.invokevirtual 124, 3) := by decide +kernel
abbrev cX11_known : ByteArray := prog_1_method_16_code
def yX11_known : MethodName := ⟨"KindredBooks", "known", "(I)I"⟩
theorem mw_840 : (Jvm.Cond.code ({ cls := "KindredBooks", name := "known", desc := "(I)I" } : Jvm.MethodName) prog_1_method_16_code (2 : Nat) (Option.some Jvm.ClassFile.FieldType.int)) ∈ W0 := W0_of (List.mem_append_right _ (List.mem_of_getElem? (i := 840) (by decide +kernel))) rfl
theorem dX11_known_0 : decode cX11_known 0 = .ok (.aload_n 0, 1) := by decide +kernel
theorem dX11_known_1 : decode cX11_known 1 = .ok (.iload_n 1, 1) := by decide +kernel
theorem dX11_known_2 : decode cX11_known 2 = .ok (.invokevirtual 124, 3) := by decide +kernel
abbrev cX11_meanLines : ByteArray := prog_1_method_47_code
def yX11_meanLines : MethodName := ⟨"KindredBooks", "meanLines", "(I)D"⟩
theorem mw_1429 : (Jvm.Cond.code ({ cls := "KindredBooks", name := "meanLines", desc := "(I)D" } : Jvm.MethodName) prog_1_method_47_code (4 : Nat) (Option.some Jvm.ClassFile.FieldType.double)) ∈ W0 := W0_of (List.mem_append_right _ (List.mem_of_getElem? (i := 1429) (by decide +kernel))) rfl
theorem dX11_meanLines_0 : decode cX11_meanLines 0 = .ok (.aload_n 0, 1) := by decide +kernel
theorem dX11_meanLines_1 : decode cX11_meanLines 1 = .ok (.iload_n 1, 1) := by decide +kernel
theorem dX11_meanLines_2 : decode cX11_meanLines 2 = .ok (.invokevirtual 124, 3) := by decide +kernel
abbrev cX11_countShare : ByteArray := prog_1_method_48_code
def yX11_countShare : MethodName := ⟨"KindredBooks", "countShare", "(I)F"⟩
theorem mw_1440 : (Jvm.Cond.code ({ cls := "KindredBooks", name := "countShare", desc := "(I)F" } : Jvm.MethodName) prog_1_method_48_code (3 : Nat) (Option.some Jvm.ClassFile.FieldType.float)) ∈ W0 := W0_of (List.mem_append_right _ (List.mem_of_getElem? (i := 1440) (by decide +kernel))) rfl
theorem dX11_countShare_0 : decode cX11_countShare 0 = .ok (.aload_n 0, 1) := by decide +kernel
theorem dX11_countShare_1 : decode cX11_countShare 1 = .ok (.iload_n 1, 1) := by decide +kernel
theorem dX11_countShare_2 : decode cX11_countShare 2 = .ok (.invokevirtual 124, 3) := by decide +kernel
abbrev cX11_readIn : ByteArray := prog_1_method_43_code
def yX11_readIn : MethodName := ⟨"KindredBooks", "readIn", "(I)I"⟩
theorem mw_1318 : (Jvm.Cond.code ({ cls := "KindredBooks", name := "readIn", desc := "(I)I" } : Jvm.MethodName) prog_1_method_43_code (6 : Nat) (Option.some Jvm.ClassFile.FieldType.int)) ∈ W0 := W0_of (List.mem_append_right _ (List.mem_of_getElem? (i := 1318) (by decide +kernel))) rfl
theorem dX11_readIn_0 : decode cX11_readIn 0 = .ok (.aload_n 0, 1) := by decide +kernel
theorem dX11_readIn_1 : decode cX11_readIn 1 = .ok (.iload_n 1, 1) := by decide +kernel
theorem dX11_readIn_2 : decode cX11_readIn 2 = .ok (.invokevirtual 124, 3) := by decide +kernel
abbrev cX11_groups : ByteArray := prog_1_method_20_code
def yX11_groups : MethodName := ⟨"KindredBooks", "groups", "(I)I"⟩
theorem mw_973 : (Jvm.Cond.code ({ cls := "KindredBooks", name := "groups", desc := "(I)I" } : Jvm.MethodName) prog_1_method_20_code (2 : Nat) (Option.some Jvm.ClassFile.FieldType.int)) ∈ W0 := W0_of (List.mem_append_right _ (List.mem_of_getElem? (i := 973) (by decide +kernel))) rfl
theorem dX11_groups_0 : decode cX11_groups 0 = .ok (.aload_n 0, 1) := by decide +kernel
theorem dX11_groups_1 : decode cX11_groups 1 = .ok (.iload_n 1, 1) := by decide +kernel
theorem dX11_groups_2 : decode cX11_groups 2 = .ok (.invokevirtual 204, 3) := by decide +kernel
theorem mw_863 : (Jvm.Cond.methodLink "KindredBooks" (204 : Nat) ({ cls := "KindredBooks", name := "kinOf", desc := "(I)LKindredBooks$Kin;" } : Jvm.MethodName)) ∈ W0 := W0_of (List.mem_append_right _ (List.mem_of_getElem? (i := 863) (by decide +kernel))) rfl
theorem mw_865 : (Jvm.Cond.instanceMethod ({ cls := "KindredBooks", name := "kinOf", desc := "(I)LKindredBooks$Kin;" } : Jvm.MethodName)) ∈ W0 := W0_of (List.mem_append_right _ (List.mem_of_getElem? (i := 865) (by decide +kernel))) rfl
theorem ms_17 : Cond.selects "KindredBooks" (⟨"KindredBooks", "kinOf", "(I)LKindredBooks$Kin;"⟩ : MethodName) (⟨"KindredBooks", "kinOf", "(I)LKindredBooks$Kin;"⟩ : MethodName) ∈ W0 := W0_of (List.mem_append_left _ (List.mem_of_getElem? (i := 17) (by decide +kernel))) rfl
abbrev cX11_looked : ByteArray := prog_1_method_34_code
def yX11_looked : MethodName := ⟨"KindredBooks", "looked", "(I)I"⟩
theorem mw_1213 : (Jvm.Cond.code ({ cls := "KindredBooks", name := "looked", desc := "(I)I" } : Jvm.MethodName) prog_1_method_34_code (6 : Nat) (Option.some Jvm.ClassFile.FieldType.int)) ∈ W0 := W0_of (List.mem_append_right _ (List.mem_of_getElem? (i := 1213) (by decide +kernel))) rfl
theorem dX11_looked_0 : decode cX11_looked 0 = .ok (.aload_n 0, 1) := by decide +kernel
theorem dX11_looked_1 : decode cX11_looked 1 = .ok (.iload_n 1, 1) := by decide +kernel
theorem dX11_looked_2 : decode cX11_looked 2 = .ok (.invokevirtual 204, 3) := by decide +kernel
abbrev cX11_digest : ByteArray := prog_1_method_45_code
def yX11_digest : MethodName := ⟨"KindredBooks", "digest", "(I)J"⟩
theorem mw_1386 : (Jvm.Cond.code ({ cls := "KindredBooks", name := "digest", desc := "(I)J" } : Jvm.MethodName) prog_1_method_45_code (8 : Nat) (Option.some Jvm.ClassFile.FieldType.long)) ∈ W0 := W0_of (List.mem_append_right _ (List.mem_of_getElem? (i := 1386) (by decide +kernel))) rfl
theorem dX11_digest_0 : decode cX11_digest 0 = .ok (.aload_n 0, 1) := by decide +kernel
theorem dX11_digest_1 : decode cX11_digest 1 = .ok (.iload_n 1, 1) := by decide +kernel
theorem dX11_digest_2 : decode cX11_digest 2 = .ok (.invokevirtual 204, 3) := by decide +kernel
abbrev cX11_errors : ByteArray := prog_1_method_46_code
def yX11_errors : MethodName := ⟨"KindredBooks", "errors", "(I)I"⟩
theorem mw_1400 : (Jvm.Cond.code ({ cls := "KindredBooks", name := "errors", desc := "(I)I" } : Jvm.MethodName) prog_1_method_46_code (4 : Nat) (Option.some Jvm.ClassFile.FieldType.int)) ∈ W0 := W0_of (List.mem_append_right _ (List.mem_of_getElem? (i := 1400) (by decide +kernel))) rfl
theorem dX11_errors_0 : decode cX11_errors 0 = .ok (.aload_n 0, 1) := by decide +kernel
theorem dX11_errors_1 : decode cX11_errors 1 = .ok (.iload_n 1, 1) := by decide +kernel
theorem dX11_errors_2 : decode cX11_errors 2 = .ok (.invokevirtual 204, 3) := by decide +kernel
abbrev cX11_gone : ByteArray := prog_1_method_10_code
def yX11_gone : MethodName := ⟨"KindredBooks", "gone", "(II)I"⟩
theorem mw_781 : (Jvm.Cond.code ({ cls := "KindredBooks", name := "gone", desc := "(II)I" } : Jvm.MethodName) prog_1_method_10_code (4 : Nat) (Option.some Jvm.ClassFile.FieldType.int)) ∈ W0 := W0_of (List.mem_append_right _ (List.mem_of_getElem? (i := 781) (by decide +kernel))) rfl
theorem dX11_gone_0 : decode cX11_gone 0 = .ok (.aload_n 0, 1) := by decide +kernel
theorem dX11_gone_1 : decode cX11_gone 1 = .ok (.iload_n 1, 1) := by decide +kernel
theorem dX11_gone_2 : decode cX11_gone 2 = .ok (.invokevirtual 124, 3) := by decide +kernel
abbrev cX11_back : ByteArray := prog_1_method_11_code
def yX11_back : MethodName := ⟨"KindredBooks", "back", "(II)I"⟩
theorem mw_788 : (Jvm.Cond.code ({ cls := "KindredBooks", name := "back", desc := "(II)I" } : Jvm.MethodName) prog_1_method_11_code (4 : Nat) (Option.some Jvm.ClassFile.FieldType.int)) ∈ W0 := W0_of (List.mem_append_right _ (List.mem_of_getElem? (i := 788) (by decide +kernel))) rfl
theorem dX11_back_0 : decode cX11_back 0 = .ok (.aload_n 0, 1) := by decide +kernel
theorem dX11_back_1 : decode cX11_back 1 = .ok (.iload_n 1, 1) := by decide +kernel
theorem dX11_back_2 : decode cX11_back 2 = .ok (.invokevirtual 124, 3) := by decide +kernel
abbrev cX11_hear : ByteArray := prog_1_method_13_code
def yX11_hear : MethodName := ⟨"KindredBooks", "hear", "(II)I"⟩
theorem mw_817 : (Jvm.Cond.code ({ cls := "KindredBooks", name := "hear", desc := "(II)I" } : Jvm.MethodName) prog_1_method_13_code (4 : Nat) (Option.some Jvm.ClassFile.FieldType.int)) ∈ W0 := W0_of (List.mem_append_right _ (List.mem_of_getElem? (i := 817) (by decide +kernel))) rfl
theorem dX11_hear_0 : decode cX11_hear 0 = .ok (.aload_n 0, 1) := by decide +kernel
theorem dX11_hear_1 : decode cX11_hear 1 = .ok (.iload_n 1, 1) := by decide +kernel
theorem dX11_hear_2 : decode cX11_hear 2 = .ok (.invokevirtual 124, 3) := by decide +kernel
abbrev cX11_agree : ByteArray := prog_1_method_44_code
def yX11_agree : MethodName := ⟨"KindredBooks", "agree", "(II)Z"⟩
theorem mw_1375 : (Jvm.Cond.code ({ cls := "KindredBooks", name := "agree", desc := "(II)Z" } : Jvm.MethodName) prog_1_method_44_code (4 : Nat) (Option.some Jvm.ClassFile.FieldType.boolean)) ∈ W0 := W0_of (List.mem_append_right _ (List.mem_of_getElem? (i := 1375) (by decide +kernel))) rfl
theorem dX11_agree_0 : decode cX11_agree 0 = .ok (.aload_n 0, 1) := by decide +kernel
theorem dX11_agree_1 : decode cX11_agree 1 = .ok (.iload_n 1, 1) := by decide +kernel
theorem dX11_agree_2 : decode cX11_agree 2 = .ok (.invokevirtual 124, 3) := by decide +kernel
abbrev cX11_counts : ByteArray := prog_1_method_17_code
def yX11_counts : MethodName := ⟨"KindredBooks", "counts", "(II)Z"⟩
theorem mw_847 : (Jvm.Cond.code ({ cls := "KindredBooks", name := "counts", desc := "(II)Z" } : Jvm.MethodName) prog_1_method_17_code (4 : Nat) (Option.some Jvm.ClassFile.FieldType.boolean)) ∈ W0 := W0_of (List.mem_append_right _ (List.mem_of_getElem? (i := 847) (by decide +kernel))) rfl
theorem dX11_counts_0 : decode cX11_counts 0 = .ok (.aload_n 0, 1) := by decide +kernel
theorem dX11_counts_1 : decode cX11_counts 1 = .ok (.iload_n 1, 1) := by decide +kernel
theorem dX11_counts_2 : decode cX11_counts 2 = .ok (.invokevirtual 124, 3) := by decide +kernel
abbrev cX11_stands : ByteArray := prog_1_method_18_code
def yX11_stands : MethodName := ⟨"KindredBooks", "stands", "(II)Z"⟩
theorem mw_854 : (Jvm.Cond.code ({ cls := "KindredBooks", name := "stands", desc := "(II)Z" } : Jvm.MethodName) prog_1_method_18_code (4 : Nat) (Option.some Jvm.ClassFile.FieldType.boolean)) ∈ W0 := W0_of (List.mem_append_right _ (List.mem_of_getElem? (i := 854) (by decide +kernel))) rfl
theorem dX11_stands_0 : decode cX11_stands 0 = .ok (.aload_n 0, 1) := by decide +kernel
theorem dX11_stands_1 : decode cX11_stands 1 = .ok (.iload_n 1, 1) := by decide +kernel
theorem dX11_stands_2 : decode cX11_stands 2 = .ok (.invokevirtual 124, 3) := by decide +kernel
abbrev cX11_holds : ByteArray := prog_1_method_19_code
def yX11_holds : MethodName := ⟨"KindredBooks", "holds", "(II)Z"⟩
theorem mw_862 : (Jvm.Cond.code ({ cls := "KindredBooks", name := "holds", desc := "(II)Z" } : Jvm.MethodName) prog_1_method_19_code (4 : Nat) (Option.some Jvm.ClassFile.FieldType.boolean)) ∈ W0 := W0_of (List.mem_append_right _ (List.mem_of_getElem? (i := 862) (by decide +kernel))) rfl
theorem dX11_holds_0 : decode cX11_holds 0 = .ok (.aload_n 0, 1) := by decide +kernel
theorem dX11_holds_1 : decode cX11_holds 1 = .ok (.iload_n 1, 1) := by decide +kernel
theorem dX11_holds_2 : decode cX11_holds 2 = .ok (.invokevirtual 204, 3) := by decide +kernel
abbrev cX11_groupAt : ByteArray := prog_1_method_21_code
def yX11_groupAt : MethodName := ⟨"KindredBooks", "groupAt", "(II)I"⟩
theorem mw_980 : (Jvm.Cond.code ({ cls := "KindredBooks", name := "groupAt", desc := "(II)I" } : Jvm.MethodName) prog_1_method_21_code (4 : Nat) (Option.some Jvm.ClassFile.FieldType.int)) ∈ W0 := W0_of (List.mem_append_right _ (List.mem_of_getElem? (i := 980) (by decide +kernel))) rfl
theorem dX11_groupAt_0 : decode cX11_groupAt 0 = .ok (.aload_n 0, 1) := by decide +kernel
theorem dX11_groupAt_1 : decode cX11_groupAt 1 = .ok (.iload_n 1, 1) := by decide +kernel
theorem dX11_groupAt_2 : decode cX11_groupAt 2 = .ok (.invokevirtual 204, 3) := by decide +kernel
abbrev cX11_groupOf : ByteArray := prog_1_method_22_code
def yX11_groupOf : MethodName := ⟨"KindredBooks", "groupOf", "(II)I"⟩
theorem mw_989 : (Jvm.Cond.code ({ cls := "KindredBooks", name := "groupOf", desc := "(II)I" } : Jvm.MethodName) prog_1_method_22_code (4 : Nat) (Option.some Jvm.ClassFile.FieldType.int)) ∈ W0 := W0_of (List.mem_append_right _ (List.mem_of_getElem? (i := 989) (by decide +kernel))) rfl
theorem dX11_groupOf_0 : decode cX11_groupOf 0 = .ok (.aload_n 0, 1) := by decide +kernel
theorem dX11_groupOf_1 : decode cX11_groupOf 1 = .ok (.iload_n 1, 1) := by decide +kernel
theorem dX11_groupOf_2 : decode cX11_groupOf 2 = .ok (.invokevirtual 204, 3) := by decide +kernel
abbrev cX11_sizeOf : ByteArray := prog_1_method_23_code
def yX11_sizeOf : MethodName := ⟨"KindredBooks", "sizeOf", "(II)I"⟩
theorem mw_997 : (Jvm.Cond.code ({ cls := "KindredBooks", name := "sizeOf", desc := "(II)I" } : Jvm.MethodName) prog_1_method_23_code (4 : Nat) (Option.some Jvm.ClassFile.FieldType.int)) ∈ W0 := W0_of (List.mem_append_right _ (List.mem_of_getElem? (i := 997) (by decide +kernel))) rfl
theorem dX11_sizeOf_0 : decode cX11_sizeOf 0 = .ok (.aload_n 0, 1) := by decide +kernel
theorem dX11_sizeOf_1 : decode cX11_sizeOf 1 = .ok (.iload_n 1, 1) := by decide +kernel
theorem dX11_sizeOf_2 : decode cX11_sizeOf 2 = .ok (.invokevirtual 204, 3) := by decide +kernel
abbrev cX11_path : ByteArray := prog_1_method_24_code
def yX11_path : MethodName := ⟨"KindredBooks", "path", "(IIII)I"⟩
theorem mw_1008 : (Jvm.Cond.code ({ cls := "KindredBooks", name := "path", desc := "(IIII)I" } : Jvm.MethodName) prog_1_method_24_code (7 : Nat) (Option.some Jvm.ClassFile.FieldType.int)) ∈ W0 := W0_of (List.mem_append_right _ (List.mem_of_getElem? (i := 1008) (by decide +kernel))) rfl
theorem dX11_path_0 : decode cX11_path 0 = .ok (.aload_n 0, 1) := by decide +kernel
theorem dX11_path_1 : decode cX11_path 1 = .ok (.iload_n 1, 1) := by decide +kernel
theorem dX11_path_2 : decode cX11_path 2 = .ok (.invokevirtual 204, 3) := by decide +kernel
abbrev cX11_forbids : ByteArray := prog_1_method_25_code
def yX11_forbids : MethodName := ⟨"KindredBooks", "forbids", "(III)I"⟩
theorem mw_1029 : (Jvm.Cond.code ({ cls := "KindredBooks", name := "forbids", desc := "(III)I" } : Jvm.MethodName) prog_1_method_25_code (5 : Nat) (Option.some Jvm.ClassFile.FieldType.int)) ∈ W0 := W0_of (List.mem_append_right _ (List.mem_of_getElem? (i := 1029) (by decide +kernel))) rfl
theorem dX11_forbids_0 : decode cX11_forbids 0 = .ok (.aload_n 0, 1) := by decide +kernel
theorem dX11_forbids_1 : decode cX11_forbids 1 = .ok (.iload_n 1, 1) := by decide +kernel
theorem dX11_forbids_2 : decode cX11_forbids 2 = .ok (.invokevirtual 204, 3) := by decide +kernel
abbrev cX11_shown : ByteArray := prog_1_method_26_code
def yX11_shown : MethodName := ⟨"KindredBooks", "shown", "(III)I"⟩
theorem mw_1037 : (Jvm.Cond.code ({ cls := "KindredBooks", name := "shown", desc := "(III)I" } : Jvm.MethodName) prog_1_method_26_code (5 : Nat) (Option.some Jvm.ClassFile.FieldType.int)) ∈ W0 := W0_of (List.mem_append_right _ (List.mem_of_getElem? (i := 1037) (by decide +kernel))) rfl
theorem dX11_shown_0 : decode cX11_shown 0 = .ok (.aload_n 0, 1) := by decide +kernel
theorem dX11_shown_1 : decode cX11_shown 1 = .ok (.iload_n 1, 1) := by decide +kernel
theorem dX11_shown_2 : decode cX11_shown 2 = .ok (.invokevirtual 204, 3) := by decide +kernel
abbrev cX11_shownAt : ByteArray := prog_1_method_27_code
def yX11_shownAt : MethodName := ⟨"KindredBooks", "shownAt", "(IIII)I"⟩
theorem mw_1048 : (Jvm.Cond.code ({ cls := "KindredBooks", name := "shownAt", desc := "(IIII)I" } : Jvm.MethodName) prog_1_method_27_code (7 : Nat) (Option.some Jvm.ClassFile.FieldType.int)) ∈ W0 := W0_of (List.mem_append_right _ (List.mem_of_getElem? (i := 1048) (by decide +kernel))) rfl
theorem dX11_shownAt_0 : decode cX11_shownAt 0 = .ok (.aload_n 0, 1) := by decide +kernel
theorem dX11_shownAt_1 : decode cX11_shownAt 1 = .ok (.iload_n 1, 1) := by decide +kernel
theorem dX11_shownAt_2 : decode cX11_shownAt 2 = .ok (.invokevirtual 204, 3) := by decide +kernel
abbrev cX11_values : ByteArray := prog_1_method_28_code
def yX11_values : MethodName := ⟨"KindredBooks", "values", "(III)I"⟩
theorem mw_1060 : (Jvm.Cond.code ({ cls := "KindredBooks", name := "values", desc := "(III)I" } : Jvm.MethodName) prog_1_method_28_code (5 : Nat) (Option.some Jvm.ClassFile.FieldType.int)) ∈ W0 := W0_of (List.mem_append_right _ (List.mem_of_getElem? (i := 1060) (by decide +kernel))) rfl
theorem dX11_values_0 : decode cX11_values 0 = .ok (.aload_n 0, 1) := by decide +kernel
theorem dX11_values_1 : decode cX11_values 1 = .ok (.iload_n 1, 1) := by decide +kernel
theorem dX11_values_2 : decode cX11_values 2 = .ok (.invokevirtual 204, 3) := by decide +kernel
abbrev cX11_likeness : ByteArray := prog_1_method_31_code
def yX11_likeness : MethodName := ⟨"KindredBooks", "likeness", "(III)I"⟩
theorem mw_1093 : (Jvm.Cond.code ({ cls := "KindredBooks", name := "likeness", desc := "(III)I" } : Jvm.MethodName) prog_1_method_31_code (7 : Nat) (Option.some Jvm.ClassFile.FieldType.int)) ∈ W0 := W0_of (List.mem_append_right _ (List.mem_of_getElem? (i := 1093) (by decide +kernel))) rfl
theorem dX11_likeness_0 : decode cX11_likeness 0 = .ok (.aload_n 0, 1) := by decide +kernel
theorem dX11_likeness_1 : decode cX11_likeness 1 = .ok (.iload_n 1, 1) := by decide +kernel
theorem dX11_likeness_2 : decode cX11_likeness 2 = .ok (.invokevirtual 204, 3) := by decide +kernel
abbrev cX11_suggest : ByteArray := prog_1_method_32_code
def yX11_suggest : MethodName := ⟨"KindredBooks", "suggest", "(II)I"⟩
theorem mw_1143 : (Jvm.Cond.code ({ cls := "KindredBooks", name := "suggest", desc := "(II)I" } : Jvm.MethodName) prog_1_method_32_code (6 : Nat) (Option.some Jvm.ClassFile.FieldType.int)) ∈ W0 := W0_of (List.mem_append_right _ (List.mem_of_getElem? (i := 1143) (by decide +kernel))) rfl
theorem dX11_suggest_0 : decode cX11_suggest 0 = .ok (.aload_n 0, 1) := by decide +kernel
theorem dX11_suggest_1 : decode cX11_suggest 1 = .ok (.iload_n 1, 1) := by decide +kernel
theorem dX11_suggest_2 : decode cX11_suggest 2 = .ok (.invokevirtual 204, 3) := by decide +kernel
abbrev cX11_search : ByteArray := prog_1_method_35_code
def yX11_search : MethodName := ⟨"KindredBooks", "search", "(II)I"⟩
theorem mw_1224 : (Jvm.Cond.code ({ cls := "KindredBooks", name := "search", desc := "(II)I" } : Jvm.MethodName) prog_1_method_35_code (7 : Nat) (Option.some Jvm.ClassFile.FieldType.int)) ∈ W0 := W0_of (List.mem_append_right _ (List.mem_of_getElem? (i := 1224) (by decide +kernel))) rfl
theorem dX11_search_0 : decode cX11_search 0 = .ok (.aload_n 0, 1) := by decide +kernel
theorem dX11_search_1 : decode cX11_search 1 = .ok (.iload_n 1, 1) := by decide +kernel
theorem dX11_search_2 : decode cX11_search 2 = .ok (.invokevirtual 204, 3) := by decide +kernel
abbrev cX11_members : ByteArray := prog_1_method_37_code
def yX11_members : MethodName := ⟨"KindredBooks", "members", "(II)I"⟩
theorem mw_1266 : (Jvm.Cond.code ({ cls := "KindredBooks", name := "members", desc := "(II)I" } : Jvm.MethodName) prog_1_method_37_code (4 : Nat) (Option.some Jvm.ClassFile.FieldType.int)) ∈ W0 := W0_of (List.mem_append_right _ (List.mem_of_getElem? (i := 1266) (by decide +kernel))) rfl
theorem dX11_members_0 : decode cX11_members 0 = .ok (.aload_n 0, 1) := by decide +kernel
theorem dX11_members_1 : decode cX11_members 1 = .ok (.iload_n 1, 1) := by decide +kernel
theorem dX11_members_2 : decode cX11_members 2 = .ok (.invokevirtual 204, 3) := by decide +kernel
abbrev cX11_memberAt : ByteArray := prog_1_method_38_code
def yX11_memberAt : MethodName := ⟨"KindredBooks", "memberAt", "(III)I"⟩
theorem mw_1281 : (Jvm.Cond.code ({ cls := "KindredBooks", name := "memberAt", desc := "(III)I" } : Jvm.MethodName) prog_1_method_38_code (6 : Nat) (Option.some Jvm.ClassFile.FieldType.int)) ∈ W0 := W0_of (List.mem_append_right _ (List.mem_of_getElem? (i := 1281) (by decide +kernel))) rfl
theorem dX11_memberAt_0 : decode cX11_memberAt 0 = .ok (.aload_n 0, 1) := by decide +kernel
theorem dX11_memberAt_1 : decode cX11_memberAt 1 = .ok (.iload_n 1, 1) := by decide +kernel
theorem dX11_memberAt_2 : decode cX11_memberAt 2 = .ok (.invokevirtual 204, 3) := by decide +kernel
abbrev cX11_yearly : ByteArray := prog_1_method_39_code
def yX11_yearly : MethodName := ⟨"KindredBooks", "yearly", "(IIIII)I"⟩
theorem mw_1292 : (Jvm.Cond.code ({ cls := "KindredBooks", name := "yearly", desc := "(IIIII)I" } : Jvm.MethodName) prog_1_method_39_code (11 : Nat) (Option.some Jvm.ClassFile.FieldType.int)) ∈ W0 := W0_of (List.mem_append_right _ (List.mem_of_getElem? (i := 1292) (by decide +kernel))) rfl
theorem dX11_yearly_0 : decode cX11_yearly 0 = .ok (.aload_n 0, 1) := by decide +kernel
theorem dX11_yearly_1 : decode cX11_yearly 1 = .ok (.iload_n 1, 1) := by decide +kernel
theorem dX11_yearly_2 : decode cX11_yearly 2 = .ok (.invokevirtual 204, 3) := by decide +kernel
abbrev cX11_line : ByteArray := prog_1_method_6_code
def yX11_line : MethodName := ⟨"KindredBooks", "line", "(III)I"⟩
theorem mw_689 : (Jvm.Cond.code ({ cls := "KindredBooks", name := "line", desc := "(III)I" } : Jvm.MethodName) prog_1_method_6_code (6 : Nat) (Option.some Jvm.ClassFile.FieldType.int)) ∈ W0 := W0_of (List.mem_append_right _ (List.mem_of_getElem? (i := 689) (by decide +kernel))) rfl
theorem dX11_line_0 : decode cX11_line 0 = .ok (.aload_n 0, 1) := by decide +kernel
theorem dX11_line_1 : decode cX11_line 1 = .ok (.iload_n 1, 1) := by decide +kernel
theorem dX11_line_2 : decode cX11_line 2 = .ok (.invokevirtual 124, 3) := by decide +kernel
abbrev cX11_makeOfTwo : ByteArray := prog_1_method_56_code
def yX11_makeOfTwo : MethodName := ⟨"KindredBooks", "makeOfTwo", "(IIII)I"⟩
theorem mw_759 : (Jvm.Cond.code ({ cls := "KindredBooks", name := "makeOfTwo", desc := "(IIII)I" } : Jvm.MethodName) prog_1_method_56_code (6 : Nat) (Option.some Jvm.ClassFile.FieldType.int)) ∈ W0 := W0_of (List.mem_append_right _ (List.mem_of_getElem? (i := 759) (by decide +kernel))) rfl
theorem dX11_makeOfTwo_0 : decode cX11_makeOfTwo 0 = .ok (.aload_n 0, 1) := by decide +kernel
theorem dX11_makeOfTwo_1 : decode cX11_makeOfTwo 1 = .ok (.iload_n 1, 1) := by decide +kernel
theorem dX11_makeOfTwo_2 : decode cX11_makeOfTwo 2 = .ok (.invokevirtual 124, 3) := by decide +kernel
theorem dX11_makeOfTwo_5 : decode cX11_makeOfTwo 5 = .ok (.astore 5, 2) := by decide +kernel
theorem dX11_makeOfTwo_7 : decode cX11_makeOfTwo 7 = .ok (.iload_n 3, 1) := by decide +kernel
theorem dX11_makeOfTwo_8 : decode cX11_makeOfTwo 8 = .ok (.iload 4, 2) := by decide +kernel
theorem dX11_makeOfTwo_10 : decode cX11_makeOfTwo 10 = .ok (.if_icmp .ne 14, 3) := by decide +kernel
theorem dX11_makeOfTwo_13 : decode cX11_makeOfTwo 13 = .ok (.new 98, 3) := by decide +kernel
theorem dX11_makeOfTwo_16 : decode cX11_makeOfTwo 16 = .ok (.dup, 1) := by decide +kernel
theorem dX11_makeOfTwo_17 : decode cX11_makeOfTwo 17 = .ok (.ldc_w 416, 3) := by decide +kernel
theorem dX11_makeOfTwo_20 : decode cX11_makeOfTwo 20 = .ok (.invokespecial 102, 3) := by decide +kernel
theorem dX11_makeOfTwo_23 : decode cX11_makeOfTwo 23 = .ok (.athrow, 1) := by decide +kernel
theorem dX11_makeOfTwo_24 : decode cX11_makeOfTwo 24 = .ok (.aload_n 0, 1) := by decide +kernel
theorem dX11_makeOfTwo_25 : decode cX11_makeOfTwo 25 = .ok (.aload 5, 2) := by decide +kernel
theorem dX11_makeOfTwo_27 : decode cX11_makeOfTwo 27 = .ok (.iload_n 3, 1) := by decide +kernel
theorem dX11_makeOfTwo_28 : decode cX11_makeOfTwo 28 = .ok (.invokevirtual 141, 3) := by decide +kernel
theorem mw_695 : (Jvm.Cond.methodLink "KindredBooks" (141 : Nat) ({ cls := "KindredBooks", name := "checkLive", desc := "(LKindredBooks$Book;I)V" } : Jvm.MethodName)) ∈ W0 := W0_of (List.mem_append_right _ (List.mem_of_getElem? (i := 695) (by decide +kernel))) rfl
theorem mw_697 : (Jvm.Cond.instanceMethod ({ cls := "KindredBooks", name := "checkLive", desc := "(LKindredBooks$Book;I)V" } : Jvm.MethodName)) ∈ W0 := W0_of (List.mem_append_right _ (List.mem_of_getElem? (i := 697) (by decide +kernel))) rfl
theorem ms_12 : Cond.selects "KindredBooks" (⟨"KindredBooks", "checkLive", "(LKindredBooks$Book;I)V"⟩ : MethodName) (⟨"KindredBooks", "checkLive", "(LKindredBooks$Book;I)V"⟩ : MethodName) ∈ W0 := W0_of (List.mem_append_left _ (List.mem_of_getElem? (i := 12) (by decide +kernel))) rfl
abbrev cX11_join : ByteArray := prog_1_method_7_code
def yX11_join : MethodName := ⟨"KindredBooks", "join", "(III)I"⟩
theorem mw_755 : (Jvm.Cond.code ({ cls := "KindredBooks", name := "join", desc := "(III)I" } : Jvm.MethodName) prog_1_method_7_code (4 : Nat) (Option.some Jvm.ClassFile.FieldType.int)) ∈ W0 := W0_of (List.mem_append_right _ (List.mem_of_getElem? (i := 755) (by decide +kernel))) rfl
theorem dX11_join_0 : decode cX11_join 0 = .ok (.aload_n 0, 1) := by decide +kernel
theorem dX11_join_1 : decode cX11_join 1 = .ok (.iload_n 1, 1) := by decide +kernel
theorem dX11_join_2 : decode cX11_join 2 = .ok (.iconst 2, 1) := by decide +kernel
theorem dX11_join_3 : decode cX11_join 3 = .ok (.iload_n 2, 1) := by decide +kernel
theorem dX11_join_4 : decode cX11_join 4 = .ok (.iload_n 3, 1) := by decide +kernel
theorem dX11_join_5 : decode cX11_join 5 = .ok (.invokevirtual 158, 3) := by decide +kernel
theorem mw_756 : (Jvm.Cond.methodLink "KindredBooks" (158 : Nat) ({ cls := "KindredBooks", name := "makeOfTwo", desc := "(IIII)I" } : Jvm.MethodName)) ∈ W0 := W0_of (List.mem_append_right _ (List.mem_of_getElem? (i := 756) (by decide +kernel))) rfl
theorem mw_758 : (Jvm.Cond.instanceMethod ({ cls := "KindredBooks", name := "makeOfTwo", desc := "(IIII)I" } : Jvm.MethodName)) ∈ W0 := W0_of (List.mem_append_right _ (List.mem_of_getElem? (i := 758) (by decide +kernel))) rfl
theorem ms_15 : Cond.selects "KindredBooks" (⟨"KindredBooks", "makeOfTwo", "(IIII)I"⟩ : MethodName) (⟨"KindredBooks", "makeOfTwo", "(IIII)I"⟩ : MethodName) ∈ W0 := W0_of (List.mem_append_left _ (List.mem_of_getElem? (i := 15) (by decide +kernel))) rfl
abbrev cX11_never : ByteArray := prog_1_method_8_code
def yX11_never : MethodName := ⟨"KindredBooks", "never", "(III)I"⟩
theorem mw_767 : (Jvm.Cond.code ({ cls := "KindredBooks", name := "never", desc := "(III)I" } : Jvm.MethodName) prog_1_method_8_code (4 : Nat) (Option.some Jvm.ClassFile.FieldType.int)) ∈ W0 := W0_of (List.mem_append_right _ (List.mem_of_getElem? (i := 767) (by decide +kernel))) rfl
theorem dX11_never_0 : decode cX11_never 0 = .ok (.aload_n 0, 1) := by decide +kernel
theorem dX11_never_1 : decode cX11_never 1 = .ok (.iload_n 1, 1) := by decide +kernel
theorem dX11_never_2 : decode cX11_never 2 = .ok (.iconst 3, 1) := by decide +kernel
theorem dX11_never_3 : decode cX11_never 3 = .ok (.iload_n 2, 1) := by decide +kernel
theorem dX11_never_4 : decode cX11_never 4 = .ok (.iload_n 3, 1) := by decide +kernel
theorem dX11_never_5 : decode cX11_never 5 = .ok (.invokevirtual 158, 3) := by decide +kernel
abbrev cX11_member : ByteArray := prog_1_method_9_code
def yX11_member : MethodName := ⟨"KindredBooks", "member", "(III)I"⟩
theorem mw_774 : (Jvm.Cond.code ({ cls := "KindredBooks", name := "member", desc := "(III)I" } : Jvm.MethodName) prog_1_method_9_code (4 : Nat) (Option.some Jvm.ClassFile.FieldType.int)) ∈ W0 := W0_of (List.mem_append_right _ (List.mem_of_getElem? (i := 774) (by decide +kernel))) rfl
theorem dX11_member_0 : decode cX11_member 0 = .ok (.aload_n 0, 1) := by decide +kernel
theorem dX11_member_1 : decode cX11_member 1 = .ok (.iload_n 1, 1) := by decide +kernel
theorem dX11_member_2 : decode cX11_member 2 = .ok (.iconst 4, 1) := by decide +kernel
theorem dX11_member_3 : decode cX11_member 3 = .ok (.iload_n 2, 1) := by decide +kernel
theorem dX11_member_4 : decode cX11_member 4 = .ok (.iload_n 3, 1) := by decide +kernel
theorem dX11_member_5 : decode cX11_member 5 = .ok (.invokevirtual 158, 3) := by decide +kernel
theorem dX11_line_5 : decode cX11_line 5 = .ok (.astore 4, 2) := by decide +kernel
theorem dX11_line_7 : decode cX11_line 7 = .ok (.aload_n 0, 1) := by decide +kernel
theorem dX11_line_8 : decode cX11_line 8 = .ok (.iload_n 3, 1) := by decide +kernel
theorem dX11_line_9 : decode cX11_line 9 = .ok (.invokevirtual 138, 3) := by decide +kernel
theorem mw_690 : (Jvm.Cond.methodLink "KindredBooks" (138 : Nat) ({ cls := "KindredBooks", name := "checkKind", desc := "(I)V" } : Jvm.MethodName)) ∈ W0 := W0_of (List.mem_append_right _ (List.mem_of_getElem? (i := 690) (by decide +kernel))) rfl
theorem mw_692 : (Jvm.Cond.instanceMethod ({ cls := "KindredBooks", name := "checkKind", desc := "(I)V" } : Jvm.MethodName)) ∈ W0 := W0_of (List.mem_append_right _ (List.mem_of_getElem? (i := 692) (by decide +kernel))) rfl
theorem ms_11 : Cond.selects "KindredBooks" (⟨"KindredBooks", "checkKind", "(I)V"⟩ : MethodName) (⟨"KindredBooks", "checkKind", "(I)V"⟩ : MethodName) ∈ W0 := W0_of (List.mem_append_left _ (List.mem_of_getElem? (i := 11) (by decide +kernel))) rfl
theorem dX11_line_12 : decode cX11_line 12 = .ok (.aload_n 0, 1) := by decide +kernel
theorem dX11_line_13 : decode cX11_line 13 = .ok (.aload 4, 2) := by decide +kernel
theorem dX11_line_15 : decode cX11_line 15 = .ok (.iload_n 2, 1) := by decide +kernel
theorem dX11_line_16 : decode cX11_line 16 = .ok (.invokevirtual 141, 3) := by decide +kernel
theorem dX11_gone_5 : decode cX11_gone 5 = .ok (.astore_n 3, 1) := by decide +kernel
theorem dX11_gone_6 : decode cX11_gone 6 = .ok (.aload_n 0, 1) := by decide +kernel
theorem dX11_gone_7 : decode cX11_gone 7 = .ok (.aload_n 3, 1) := by decide +kernel
theorem dX11_gone_8 : decode cX11_gone 8 = .ok (.iload_n 2, 1) := by decide +kernel
theorem dX11_gone_9 : decode cX11_gone 9 = .ok (.invokevirtual 141, 3) := by decide +kernel
theorem dX11_back_5 : decode cX11_back 5 = .ok (.astore_n 3, 1) := by decide +kernel
theorem dX11_back_6 : decode cX11_back 6 = .ok (.aload_n 0, 1) := by decide +kernel
theorem dX11_back_7 : decode cX11_back 7 = .ok (.iload_n 2, 1) := by decide +kernel
theorem dX11_back_8 : decode cX11_back 8 = .ok (.invokevirtual 162, 3) := by decide +kernel
theorem mw_789 : (Jvm.Cond.methodLink "KindredBooks" (162 : Nat) ({ cls := "KindredBooks", name := "checkChange", desc := "(I)V" } : Jvm.MethodName)) ∈ W0 := W0_of (List.mem_append_right _ (List.mem_of_getElem? (i := 789) (by decide +kernel))) rfl
theorem mw_791 : (Jvm.Cond.instanceMethod ({ cls := "KindredBooks", name := "checkChange", desc := "(I)V" } : Jvm.MethodName)) ∈ W0 := W0_of (List.mem_append_right _ (List.mem_of_getElem? (i := 791) (by decide +kernel))) rfl
theorem ms_16 : Cond.selects "KindredBooks" (⟨"KindredBooks", "checkChange", "(I)V"⟩ : MethodName) (⟨"KindredBooks", "checkChange", "(I)V"⟩ : MethodName) ∈ W0 := W0_of (List.mem_append_left _ (List.mem_of_getElem? (i := 16) (by decide +kernel))) rfl
theorem dX11_counts_5 : decode cX11_counts 5 = .ok (.astore_n 3, 1) := by decide +kernel
theorem dX11_counts_6 : decode cX11_counts 6 = .ok (.aload_n 0, 1) := by decide +kernel
theorem dX11_counts_7 : decode cX11_counts 7 = .ok (.iload_n 2, 1) := by decide +kernel
theorem dX11_counts_8 : decode cX11_counts 8 = .ok (.invokevirtual 162, 3) := by decide +kernel
theorem dX11_stands_5 : decode cX11_stands 5 = .ok (.astore_n 3, 1) := by decide +kernel
theorem dX11_stands_6 : decode cX11_stands 6 = .ok (.aload_n 0, 1) := by decide +kernel
theorem dX11_stands_7 : decode cX11_stands 7 = .ok (.iload_n 2, 1) := by decide +kernel
theorem dX11_stands_8 : decode cX11_stands 8 = .ok (.invokevirtual 162, 3) := by decide +kernel
abbrev cX1_latestOwn : ByteArray := prog_3_method_17_code
def yX1_latestOwn : MethodName := ⟨"KindredBooks$Book", "latestOwn", "()I"⟩
theorem mw_809 : (Jvm.Cond.code ({ cls := "KindredBooks$Book", name := "latestOwn", desc := "()I" } : Jvm.MethodName) prog_3_method_17_code (3 : Nat) (Option.some Jvm.ClassFile.FieldType.int)) ∈ W0 := W0_of (List.mem_append_right _ (List.mem_of_getElem? (i := 809) (by decide +kernel))) rfl
theorem dX1_latestOwn_0 : decode cX1_latestOwn 0 = .ok (.aload_n 0, 1) := by decide +kernel
theorem dX1_latestOwn_1 : decode cX1_latestOwn 1 = .ok (.getfield 31, 3) := by decide +kernel
theorem mw_269 : (Jvm.Cond.fieldLink "KindredBooks$Book" (31 : Nat) "KindredBooks$Book" "ledger" "LKindredBooks$Ledger;") ∈ W0 := W0_of (List.mem_append_right _ (List.mem_of_getElem? (i := 269) (by decide +kernel))) rfl
theorem dX1_latestOwn_4 : decode cX1_latestOwn 4 = .ok (.getfield 45, 3) := by decide +kernel
theorem mn_169 : (Jvm.Cond.fieldLinkNest "KindredBooks$Book" (45 : Nat) "KindredBooks$Ledger" "size" "I" "KindredBooks") ∈ N0 := N0_of (List.mem_append_right _ (List.mem_of_getElem? (i := 169) (by decide +kernel))) rfl
theorem dX1_latestOwn_7 : decode cX1_latestOwn 7 = .ok (.iconst 1, 1) := by decide +kernel
theorem dX1_latestOwn_8 : decode cX1_latestOwn 8 = .ok (.isub, 1) := by decide +kernel
theorem dX1_latestOwn_9 : decode cX1_latestOwn 9 = .ok (.istore_n 1, 1) := by decide +kernel
theorem dX1_latestOwn_10 : decode cX1_latestOwn 10 = .ok (.iload_n 1, 1) := by decide +kernel
theorem dX1_latestOwn_11 : decode cX1_latestOwn 11 = .ok (.ifCond .lt 48, 3) := by decide +kernel
theorem dX1_latestOwn_59 : decode cX1_latestOwn 59 = .ok (.iconst (-1), 1) := by decide +kernel
theorem dX1_latestOwn_60 : decode cX1_latestOwn 60 = .ok (.ireturn, 1) := by decide +kernel
theorem dX11_undo_5 : decode cX11_undo 5 = .ok (.astore_n 2, 1) := by decide +kernel
theorem dX11_undo_6 : decode cX11_undo 6 = .ok (.aload_n 2, 1) := by decide +kernel
theorem dX11_undo_7 : decode cX11_undo 7 = .ok (.invokevirtual 174, 3) := by decide +kernel
theorem mw_806 : (Jvm.Cond.methodLink "KindredBooks" (174 : Nat) ({ cls := "KindredBooks$Book", name := "latestOwn", desc := "()I" } : Jvm.MethodName)) ∈ W0 := W0_of (List.mem_append_right _ (List.mem_of_getElem? (i := 806) (by decide +kernel))) rfl
theorem mw_807 : (Jvm.Cond.instanceMethod ({ cls := "KindredBooks$Book", name := "latestOwn", desc := "()I" } : Jvm.MethodName)) ∈ W0 := W0_of (List.mem_append_right _ (List.mem_of_getElem? (i := 807) (by decide +kernel))) rfl
theorem mw_808 : (Jvm.Cond.selects "KindredBooks$Book" ({ cls := "KindredBooks$Book", name := "latestOwn", desc := "()I" } : Jvm.MethodName) ({ cls := "KindredBooks$Book", name := "latestOwn", desc := "()I" } : Jvm.MethodName)) ∈ W0 := W0_of (List.mem_append_right _ (List.mem_of_getElem? (i := 808) (by decide +kernel))) rfl
theorem dX11_undo_10 : decode cX11_undo 10 = .ok (.istore_n 3, 1) := by decide +kernel
theorem dX11_undo_11 : decode cX11_undo 11 = .ok (.iload_n 3, 1) := by decide +kernel
theorem dX11_undo_12 : decode cX11_undo 12 = .ok (.iconst (-1), 1) := by decide +kernel
theorem dX11_undo_13 : decode cX11_undo 13 = .ok (.if_icmp .ne 5, 3) := by decide +kernel
theorem dX11_undo_16 : decode cX11_undo 16 = .ok (.iconst (-1), 1) := by decide +kernel
theorem dX11_undo_17 : decode cX11_undo 17 = .ok (.ireturn, 1) := by decide +kernel
theorem dX11_known_5 : decode cX11_known 5 = .ok (.getfield 200, 3) := by decide +kernel
theorem mn_276 : (Jvm.Cond.fieldLinkNest "KindredBooks" (200 : Nat) "KindredBooks$Book" "size" "I" "KindredBooks") ∈ N0 := N0_of (List.mem_append_right _ (List.mem_of_getElem? (i := 276) (by decide +kernel))) rfl
theorem dX11_known_8 : decode cX11_known 8 = .ok (.ireturn, 1) := by decide +kernel
abbrev cX1_learnFrom : ByteArray := prog_3_method_6_code
def yX1_learnFrom : MethodName := ⟨"KindredBooks$Book", "learnFrom", "(LKindredBooks$Book;)I"⟩
theorem mw_821 : (Jvm.Cond.code ({ cls := "KindredBooks$Book", name := "learnFrom", desc := "(LKindredBooks$Book;)I" } : Jvm.MethodName) prog_3_method_6_code (4 : Nat) (Option.some Jvm.ClassFile.FieldType.int)) ∈ W0 := W0_of (List.mem_append_right _ (List.mem_of_getElem? (i := 821) (by decide +kernel))) rfl
theorem dX1_learnFrom_0 : decode cX1_learnFrom 0 = .ok (.aload_n 0, 1) := by decide +kernel
theorem dX1_learnFrom_1 : decode cX1_learnFrom 1 = .ok (.getfield 66, 3) := by decide +kernel
theorem mw_275 : (Jvm.Cond.fieldLink "KindredBooks$Book" (66 : Nat) "KindredBooks$Book" "size" "I") ∈ W0 := W0_of (List.mem_append_right _ (List.mem_of_getElem? (i := 275) (by decide +kernel))) rfl
theorem dX1_learnFrom_4 : decode cX1_learnFrom 4 = .ok (.istore_n 2, 1) := by decide +kernel
theorem dX1_learnFrom_5 : decode cX1_learnFrom 5 = .ok (.iconst 0, 1) := by decide +kernel
theorem dX1_learnFrom_6 : decode cX1_learnFrom 6 = .ok (.istore_n 3, 1) := by decide +kernel
theorem dX1_learnFrom_7 : decode cX1_learnFrom 7 = .ok (.iload_n 3, 1) := by decide +kernel
theorem dX1_learnFrom_8 : decode cX1_learnFrom 8 = .ok (.aload_n 0, 1) := by decide +kernel
theorem dX1_learnFrom_9 : decode cX1_learnFrom 9 = .ok (.getfield 31, 3) := by decide +kernel
theorem dX1_learnFrom_12 : decode cX1_learnFrom 12 = .ok (.getfield 45, 3) := by decide +kernel
theorem dX1_learnFrom_15 : decode cX1_learnFrom 15 = .ok (.if_icmp .ge 37, 3) := by decide +kernel
theorem dX1_learnFrom_52 : decode cX1_learnFrom 52 = .ok (.aload_n 0, 1) := by decide +kernel
theorem dX1_learnFrom_53 : decode cX1_learnFrom 53 = .ok (.getfield 66, 3) := by decide +kernel
theorem dX1_learnFrom_56 : decode cX1_learnFrom 56 = .ok (.iload_n 2, 1) := by decide +kernel
theorem dX1_learnFrom_57 : decode cX1_learnFrom 57 = .ok (.if_icmp .le 7, 3) := by decide +kernel
theorem dX1_learnFrom_64 : decode cX1_learnFrom 64 = .ok (.aload_n 0, 1) := by decide +kernel
theorem dX1_learnFrom_65 : decode cX1_learnFrom 65 = .ok (.getfield 66, 3) := by decide +kernel
theorem dX1_learnFrom_68 : decode cX1_learnFrom 68 = .ok (.iload_n 2, 1) := by decide +kernel
theorem dX1_learnFrom_69 : decode cX1_learnFrom 69 = .ok (.isub, 1) := by decide +kernel
theorem dX1_learnFrom_70 : decode cX1_learnFrom 70 = .ok (.ireturn, 1) := by decide +kernel
abbrev cX1_knowsTheSame : ByteArray := prog_3_method_7_code
def yX1_knowsTheSame : MethodName := ⟨"KindredBooks$Book", "knowsTheSame", "(LKindredBooks$Book;)Z"⟩
theorem mw_1379 : (Jvm.Cond.code ({ cls := "KindredBooks$Book", name := "knowsTheSame", desc := "(LKindredBooks$Book;)Z" } : Jvm.MethodName) prog_3_method_7_code (3 : Nat) (Option.some Jvm.ClassFile.FieldType.boolean)) ∈ W0 := W0_of (List.mem_append_right _ (List.mem_of_getElem? (i := 1379) (by decide +kernel))) rfl
theorem dX1_knowsTheSame_0 : decode cX1_knowsTheSame 0 = .ok (.iconst 0, 1) := by decide +kernel
theorem dX1_knowsTheSame_1 : decode cX1_knowsTheSame 1 = .ok (.istore_n 2, 1) := by decide +kernel
theorem dX1_knowsTheSame_2 : decode cX1_knowsTheSame 2 = .ok (.iload_n 2, 1) := by decide +kernel
theorem dX1_knowsTheSame_3 : decode cX1_knowsTheSame 3 = .ok (.aload_n 0, 1) := by decide +kernel
theorem dX1_knowsTheSame_4 : decode cX1_knowsTheSame 4 = .ok (.getfield 31, 3) := by decide +kernel
theorem dX1_knowsTheSame_7 : decode cX1_knowsTheSame 7 = .ok (.getfield 45, 3) := by decide +kernel
theorem dX1_knowsTheSame_10 : decode cX1_knowsTheSame 10 = .ok (.if_icmp .ge 24, 3) := by decide +kernel
theorem dX1_knowsTheSame_34 : decode cX1_knowsTheSame 34 = .ok (.iconst 1, 1) := by decide +kernel
theorem dX1_knowsTheSame_35 : decode cX1_knowsTheSame 35 = .ok (.ireturn, 1) := by decide +kernel
theorem dX11_hear_5 : decode cX11_hear 5 = .ok (.astore_n 3, 1) := by decide +kernel
theorem dX11_hear_6 : decode cX11_hear 6 = .ok (.aload_n 3, 1) := by decide +kernel
theorem dX11_hear_7 : decode cX11_hear 7 = .ok (.aload_n 0, 1) := by decide +kernel
theorem dX11_hear_8 : decode cX11_hear 8 = .ok (.iload_n 2, 1) := by decide +kernel
theorem dX11_hear_9 : decode cX11_hear 9 = .ok (.invokevirtual 124, 3) := by decide +kernel
theorem dX11_hear_12 : decode cX11_hear 12 = .ok (.invokevirtual 178, 3) := by decide +kernel
theorem mw_818 : (Jvm.Cond.methodLink "KindredBooks" (178 : Nat) ({ cls := "KindredBooks$Book", name := "learnFrom", desc := "(LKindredBooks$Book;)I" } : Jvm.MethodName)) ∈ W0 := W0_of (List.mem_append_right _ (List.mem_of_getElem? (i := 818) (by decide +kernel))) rfl
theorem mw_819 : (Jvm.Cond.instanceMethod ({ cls := "KindredBooks$Book", name := "learnFrom", desc := "(LKindredBooks$Book;)I" } : Jvm.MethodName)) ∈ W0 := W0_of (List.mem_append_right _ (List.mem_of_getElem? (i := 819) (by decide +kernel))) rfl
theorem mw_820 : (Jvm.Cond.selects "KindredBooks$Book" ({ cls := "KindredBooks$Book", name := "learnFrom", desc := "(LKindredBooks$Book;)I" } : Jvm.MethodName) ({ cls := "KindredBooks$Book", name := "learnFrom", desc := "(LKindredBooks$Book;)I" } : Jvm.MethodName)) ∈ W0 := W0_of (List.mem_append_right _ (List.mem_of_getElem? (i := 820) (by decide +kernel))) rfl
theorem dX11_hear_15 : decode cX11_hear 15 = .ok (.ireturn, 1) := by decide +kernel
theorem dX11_agree_5 : decode cX11_agree 5 = .ok (.astore_n 3, 1) := by decide +kernel
theorem dX11_agree_6 : decode cX11_agree 6 = .ok (.aload_n 3, 1) := by decide +kernel
theorem dX11_agree_7 : decode cX11_agree 7 = .ok (.aload_n 0, 1) := by decide +kernel
theorem dX11_agree_8 : decode cX11_agree 8 = .ok (.iload_n 2, 1) := by decide +kernel
theorem dX11_agree_9 : decode cX11_agree 9 = .ok (.invokevirtual 124, 3) := by decide +kernel
theorem dX11_agree_12 : decode cX11_agree 12 = .ok (.invokevirtual 364, 3) := by decide +kernel
theorem mw_1376 : (Jvm.Cond.methodLink "KindredBooks" (364 : Nat) ({ cls := "KindredBooks$Book", name := "knowsTheSame", desc := "(LKindredBooks$Book;)Z" } : Jvm.MethodName)) ∈ W0 := W0_of (List.mem_append_right _ (List.mem_of_getElem? (i := 1376) (by decide +kernel))) rfl
theorem mw_1377 : (Jvm.Cond.instanceMethod ({ cls := "KindredBooks$Book", name := "knowsTheSame", desc := "(LKindredBooks$Book;)Z" } : Jvm.MethodName)) ∈ W0 := W0_of (List.mem_append_right _ (List.mem_of_getElem? (i := 1377) (by decide +kernel))) rfl
theorem mw_1378 : (Jvm.Cond.selects "KindredBooks$Book" ({ cls := "KindredBooks$Book", name := "knowsTheSame", desc := "(LKindredBooks$Book;)Z" } : Jvm.MethodName) ({ cls := "KindredBooks$Book", name := "knowsTheSame", desc := "(LKindredBooks$Book;)Z" } : Jvm.MethodName)) ∈ W0 := W0_of (List.mem_append_right _ (List.mem_of_getElem? (i := 1378) (by decide +kernel))) rfl
theorem dX11_agree_15 : decode cX11_agree 15 = .ok (.ireturn, 1) := by decide +kernel
abbrev cX11_change : ByteArray := prog_1_method_15_code
def yX11_change : MethodName := ⟨"KindredBooks", "change", "(II)I"⟩
theorem mw_832 : (Jvm.Cond.code ({ cls := "KindredBooks", name := "change", desc := "(II)I" } : Jvm.MethodName) prog_1_method_15_code (4 : Nat) (Option.some Jvm.ClassFile.FieldType.int)) ∈ W0 := W0_of (List.mem_append_right _ (List.mem_of_getElem? (i := 832) (by decide +kernel))) rfl
theorem dX11_change_0 : decode cX11_change 0 = .ok (.aload_n 0, 1) := by decide +kernel
theorem dX11_change_1 : decode cX11_change 1 = .ok (.iload_n 1, 1) := by decide +kernel
theorem dX11_change_2 : decode cX11_change 2 = .ok (.invokevirtual 162, 3) := by decide +kernel
abbrev cX11_write : ByteArray := prog_1_method_29_code
def yX11_write : MethodName := ⟨"KindredBooks", "write", "(II)I"⟩
theorem mw_1071 : (Jvm.Cond.code ({ cls := "KindredBooks", name := "write", desc := "(II)I" } : Jvm.MethodName) prog_1_method_29_code (4 : Nat) (Option.some Jvm.ClassFile.FieldType.int)) ∈ W0 := W0_of (List.mem_append_right _ (List.mem_of_getElem? (i := 1071) (by decide +kernel))) rfl
theorem dX11_write_0 : decode cX11_write 0 = .ok (.aload_n 0, 1) := by decide +kernel
theorem dX11_write_1 : decode cX11_write 1 = .ok (.iload_n 1, 1) := by decide +kernel
theorem dX11_write_2 : decode cX11_write 2 = .ok (.invokevirtual 162, 3) := by decide +kernel
theorem dX11_holds_5 : decode cX11_holds 5 = .ok (.astore_n 3, 1) := by decide +kernel
theorem dX11_holds_6 : decode cX11_holds 6 = .ok (.aload_n 0, 1) := by decide +kernel
theorem dX11_holds_7 : decode cX11_holds 7 = .ok (.iload_n 2, 1) := by decide +kernel
theorem dX11_holds_8 : decode cX11_holds 8 = .ok (.invokevirtual 162, 3) := by decide +kernel
def zbad (b : Int32) : Prop := b < 0 ∨ 3 ≤ b
theorem zbad_3 {b : Int32} (h : zbad b) (h1 : ¬ b < 0) : ¬ b < 3 := Int32.not_lt.mpr (h.resolve_left h1)
def zbadk (b : Int32) : Prop := b < 0 ∨ 4 < b
theorem zbadk_4 {b : Int32} (h : zbadk b) (h1 : ¬ b < 0) : ¬ b ≤ 4 := Int32.not_le.mpr (h.resolve_left h1)
def zokk (b : Int32) : Prop := ¬ b < 0 ∧ b ≤ 4
set_option maxHeartbeats 4000000 in
set_option maxRecDepth 100000 in
/-- bookOf: no such book -/
theorem c_bookOf_no (l : Launch) (D : va_G) (dA : Nat → ClassId) (dZ : Nat → Nat) (sz : Nat) (hfl : l.stackTraces = false) (ax : Nat) (b : Int32) (hz : zbad b) : vx_Met l yX11_bookOf (wz yX11_bookOf cX11_bookOf 2 (some (.object "KindredBooks$Book"))) ({ frames := 6, cells := 1, slots := 6, locals := 100 } : Room) (va_Pc [.ref ax, .int b] (zP D dA dZ [] sz)) zNo (zX "java/lang/IndexOutOfBoundsException" (va_A [] sz)) 1 6 (va_A [] sz) := by
  refine vx_ofW (cc := cX11_bookOf) (maxL := 2) (ret := (some (.object "KindredBooks$Book"))) (by decide) rfl ?_
  intro p e s m args below meth c s₁ B hml hno hv
  obtain ⟨rfl, hsz, hP, hK, hD0, hT, hE⟩ := hv
  have hx := B.exec
  have hb := B.bytes
  have hr := B.returns
  have hw := wz_hw (atoms_spec (ws := wz yX11_bookOf cX11_bookOf 2 (some (.object "KindredBooks$Book"))) B.pre)
  have hown : s.vm.findClass "KindredBooks" = some m.cls := findClass_of_methodNamed B.named
  have hlocks := B.notSynchronized
  have hn := hT.1.use (args := ([.ref ax, .int b] : List Value).toArray)
  subst hsz
  have hD := hD0.self (sz := s.heap.size)
  generalize hAe : va_A [] s.heap.size = A at hD hE ⊢
  have hA : ∀ q : Nat, s.heap.size ≤ q → A q := fun q h => by rw [← hAe]; exact Or.inr h
  have hS : va_S A s.heap s.heap [] := va_S.rf
  replace hP : va_P D zcl [] s.heap := hP
  have hl := lv_entry ([.ref ax, .int b]) (n := 2) (Nat.le_of_ble_eq_true rfl)
  rw [lg_entry_eq]
  generalize (lg_sl ([.ref ax, .int b]) ++ List.replicate (2 - (lg_sl ([.ref ax, .int b])).length) Slot.unset).toArray = ls at hl ⊢
  replace hl : lv_has ls 2 [(0, .ref ax), (1, .int b)] := hl
  refine lv_iload_n hx hb dX11_bookOf_0 rfl (lv_at hl 1 rfl) ?_
  refine lv_if_lt (tgt := 9) hx hb dX11_bookOf_1 (by decide) (fun c1 => ?_) (fun c1 => ?_)
  · obtain ⟨sa, hsa⟩ := hT.2.1 ("KindredBooks", 395, "there is no such book") (by decide)
    exact vx_throwSW (own := "KindredBooks") (cls := "java/lang/IndexOutOfBoundsException") (names := ["java/lang/RuntimeException", "java/lang/Exception"]) (XC := zX "java/lang/IndexOutOfBoundsException" A) hx hb hfl hown (by decide) (by decide) (hw _ mw_607) (hw _ mw_29) hsa (z_at hw hT.1 xat_KindredBooks_216_IndexOutOfBoundsException) xgd_KindredBooks_216_212 hE.2.2.2.2.2.1 hE.2.2.2.2.2.2 hS (hl.1.trans hml.symm) dX11_bookOf_9 dX11_bookOf_12 dX11_bookOf_13 dX11_bookOf_16 dX11_bookOf_19 (fun x hx => (hno x hx).elim) (Nat.le_of_ble_eq_true rfl) (Nat.le_of_ble_eq_true rfl) (Nat.le_of_ble_eq_true rfl) (Nat.le_of_ble_eq_true rfl) hlocks (fun t _ h1 h2 => zX_of hS h1 h2) hS.2.2 (Nat.le_of_ble_eq_true rfl) (Nat.le_of_ble_eq_true rfl)
  · refine lv_iload_n hx hb dX11_bookOf_4 rfl (lv_at hl 1 rfl) ?_
    refine lv_iconst (v := 3) hx hb dX11_bookOf_5 (by decide) ?_
    refine lv_icmp_lt (tgt := 20) hx hb dX11_bookOf_6 (by decide) (fun zc => absurd zc (zbad_3 hz c1)) (fun _ => ?_)
    obtain ⟨sa, hsa⟩ := hT.2.1 ("KindredBooks", 395, "there is no such book") (by decide)
    exact vx_throwSW (own := "KindredBooks") (cls := "java/lang/IndexOutOfBoundsException") (names := ["java/lang/RuntimeException", "java/lang/Exception"]) (XC := zX "java/lang/IndexOutOfBoundsException" A) hx hb hfl hown (by decide) (by decide) (hw _ mw_607) (hw _ mw_29) hsa (z_at hw hT.1 xat_KindredBooks_216_IndexOutOfBoundsException) xgd_KindredBooks_216_212 hE.2.2.2.2.2.1 hE.2.2.2.2.2.2 hS (hl.1.trans hml.symm) dX11_bookOf_9 dX11_bookOf_12 dX11_bookOf_13 dX11_bookOf_16 dX11_bookOf_19 (fun x hx => (hno x hx).elim) (Nat.le_of_ble_eq_true rfl) (Nat.le_of_ble_eq_true rfl) (Nat.le_of_ble_eq_true rfl) (Nat.le_of_ble_eq_true rfl) hlocks (fun t _ h1 h2 => zX_of hS h1 h2) hS.2.2 (Nat.le_of_ble_eq_true rfl) (Nat.le_of_ble_eq_true rfl)
set_option maxHeartbeats 4000000 in
set_option maxRecDepth 100000 in
/-- kinOf: no such book -/
theorem c_kinOf_no (l : Launch) (D : va_G) (dA : Nat → ClassId) (dZ : Nat → Nat) (sz : Nat) (hfl : l.stackTraces = false) (ax : Nat) (b : Int32) (hz : zbad b) : vx_Met l yX11_kinOf (wz yX11_kinOf cX11_kinOf 2 (some (.object "KindredBooks$Kin"))) ({ frames := 6, cells := 1, slots := 6, locals := 100 } : Room) (va_Pc [.ref ax, .int b] (zP D dA dZ [] sz)) zNo (zX "java/lang/IndexOutOfBoundsException" (va_A [] sz)) 1 6 (va_A [] sz) := by
  refine vx_ofW (cc := cX11_kinOf) (maxL := 2) (ret := (some (.object "KindredBooks$Kin"))) (by decide) rfl ?_
  intro p e s m args below meth c s₁ B hml hno hv
  obtain ⟨rfl, hsz, hP, hK, hD0, hT, hE⟩ := hv
  have hx := B.exec
  have hb := B.bytes
  have hr := B.returns
  have hw := wz_hw (atoms_spec (ws := wz yX11_kinOf cX11_kinOf 2 (some (.object "KindredBooks$Kin"))) B.pre)
  have hown : s.vm.findClass "KindredBooks" = some m.cls := findClass_of_methodNamed B.named
  have hlocks := B.notSynchronized
  have hn := hT.1.use (args := ([.ref ax, .int b] : List Value).toArray)
  subst hsz
  have hD := hD0.self (sz := s.heap.size)
  generalize hAe : va_A [] s.heap.size = A at hD hE ⊢
  have hA : ∀ q : Nat, s.heap.size ≤ q → A q := fun q h => by rw [← hAe]; exact Or.inr h
  have hS : va_S A s.heap s.heap [] := va_S.rf
  replace hP : va_P D zcl [] s.heap := hP
  have hl := lv_entry ([.ref ax, .int b]) (n := 2) (Nat.le_of_ble_eq_true rfl)
  rw [lg_entry_eq]
  generalize (lg_sl ([.ref ax, .int b]) ++ List.replicate (2 - (lg_sl ([.ref ax, .int b])).length) Slot.unset).toArray = ls at hl ⊢
  replace hl : lv_has ls 2 [(0, .ref ax), (1, .int b)] := hl
  refine lv_iload_n hx hb dX11_kinOf_0 rfl (lv_at hl 1 rfl) ?_
  refine lv_if_lt (tgt := 9) hx hb dX11_kinOf_1 (by decide) (fun c1 => ?_) (fun c1 => ?_)
  · obtain ⟨sa, hsa⟩ := hT.2.1 ("KindredBooks", 395, "there is no such book") (by decide)
    exact vx_throwSW (own := "KindredBooks") (cls := "java/lang/IndexOutOfBoundsException") (names := ["java/lang/RuntimeException", "java/lang/Exception"]) (XC := zX "java/lang/IndexOutOfBoundsException" A) hx hb hfl hown (by decide) (by decide) (hw _ mw_607) (hw _ mw_29) hsa (z_at hw hT.1 xat_KindredBooks_216_IndexOutOfBoundsException) xgd_KindredBooks_216_212 hE.2.2.2.2.2.1 hE.2.2.2.2.2.2 hS (hl.1.trans hml.symm) dX11_kinOf_9 dX11_kinOf_12 dX11_kinOf_13 dX11_kinOf_16 dX11_kinOf_19 (fun x hx => (hno x hx).elim) (Nat.le_of_ble_eq_true rfl) (Nat.le_of_ble_eq_true rfl) (Nat.le_of_ble_eq_true rfl) (Nat.le_of_ble_eq_true rfl) hlocks (fun t _ h1 h2 => zX_of hS h1 h2) hS.2.2 (Nat.le_of_ble_eq_true rfl) (Nat.le_of_ble_eq_true rfl)
  · refine lv_iload_n hx hb dX11_kinOf_4 rfl (lv_at hl 1 rfl) ?_
    refine lv_iconst (v := 3) hx hb dX11_kinOf_5 (by decide) ?_
    refine lv_icmp_lt (tgt := 20) hx hb dX11_kinOf_6 (by decide) (fun zc => absurd zc (zbad_3 hz c1)) (fun _ => ?_)
    obtain ⟨sa, hsa⟩ := hT.2.1 ("KindredBooks", 395, "there is no such book") (by decide)
    exact vx_throwSW (own := "KindredBooks") (cls := "java/lang/IndexOutOfBoundsException") (names := ["java/lang/RuntimeException", "java/lang/Exception"]) (XC := zX "java/lang/IndexOutOfBoundsException" A) hx hb hfl hown (by decide) (by decide) (hw _ mw_607) (hw _ mw_29) hsa (z_at hw hT.1 xat_KindredBooks_216_IndexOutOfBoundsException) xgd_KindredBooks_216_212 hE.2.2.2.2.2.1 hE.2.2.2.2.2.2 hS (hl.1.trans hml.symm) dX11_kinOf_9 dX11_kinOf_12 dX11_kinOf_13 dX11_kinOf_16 dX11_kinOf_19 (fun x hx => (hno x hx).elim) (Nat.le_of_ble_eq_true rfl) (Nat.le_of_ble_eq_true rfl) (Nat.le_of_ble_eq_true rfl) (Nat.le_of_ble_eq_true rfl) hlocks (fun t _ h1 h2 => zX_of hS h1 h2) hS.2.2 (Nat.le_of_ble_eq_true rfl) (Nat.le_of_ble_eq_true rfl)
set_option maxHeartbeats 4000000 in
set_option maxRecDepth 100000 in
/-- checkKind: none -/
theorem c_checkKind_no (l : Launch) (D : va_G) (dA : Nat → ClassId) (dZ : Nat → Nat) (sz : Nat) (hfl : l.stackTraces = false) (ax : Nat) (b : Int32) (hz : zbadk b) : vx_Met l yX11_checkKind (wz yX11_checkKind cX11_checkKind 2 none) ({ frames := 6, cells := 1, slots := 6, locals := 100 } : Room) (va_Pc [.ref ax, .int b] (zP D dA dZ [] sz)) zNo (zX "java/lang/IllegalArgumentException" (va_A [] sz)) 1 6 (va_A [] sz) := by
  refine vx_ofW (cc := cX11_checkKind) (maxL := 2) (ret := none) (by decide) rfl ?_
  intro p e s m args below meth c s₁ B hml hno hv
  obtain ⟨rfl, hsz, hP, hK, hD0, hT, hE⟩ := hv
  have hx := B.exec
  have hb := B.bytes
  have hr := B.returns
  have hw := wz_hw (atoms_spec (ws := wz yX11_checkKind cX11_checkKind 2 none) B.pre)
  have hown : s.vm.findClass "KindredBooks" = some m.cls := findClass_of_methodNamed B.named
  have hlocks := B.notSynchronized
  have hn := hT.1.use (args := ([.ref ax, .int b] : List Value).toArray)
  subst hsz
  have hD := hD0.self (sz := s.heap.size)
  generalize hAe : va_A [] s.heap.size = A at hD hE ⊢
  have hA : ∀ q : Nat, s.heap.size ≤ q → A q := fun q h => by rw [← hAe]; exact Or.inr h
  have hS : va_S A s.heap s.heap [] := va_S.rf
  replace hP : va_P D zcl [] s.heap := hP
  have hl := lv_entry ([.ref ax, .int b]) (n := 2) (Nat.le_of_ble_eq_true rfl)
  rw [lg_entry_eq]
  generalize (lg_sl ([.ref ax, .int b]) ++ List.replicate (2 - (lg_sl ([.ref ax, .int b])).length) Slot.unset).toArray = ls at hl ⊢
  replace hl : lv_has ls 2 [(0, .ref ax), (1, .int b)] := hl
  refine lv_iload_n hx hb dX11_checkKind_0 rfl (lv_at hl 1 rfl) ?_
  refine lv_if_lt (tgt := 9) hx hb dX11_checkKind_1 (by decide) (fun c1 => ?_) (fun c1 => ?_)
  · obtain ⟨sa, hsa⟩ := hT.2.1 ("KindredBooks", 404, "there is no such kind of lines") (by decide)
    exact vx_throwSW (own := "KindredBooks") (cls := "java/lang/IllegalArgumentException") (names := ["java/lang/RuntimeException", "java/lang/Exception"]) (XC := zX "java/lang/IllegalArgumentException" A) hx hb hfl hown (by decide) (by decide) (hw _ mw_540) (hw _ mw_33) hsa (z_at hw hT.1 xat_KindredBooks_102_IllegalArgumentException) xgd_KindredBooks_102_98 hE.2.2.2.2.2.1 hE.2.2.2.2.2.2 hS (hl.1.trans hml.symm) dX11_checkKind_9 dX11_checkKind_12 dX11_checkKind_13 dX11_checkKind_16 dX11_checkKind_19 (fun x hx => (hno x hx).elim) (Nat.le_of_ble_eq_true rfl) (Nat.le_of_ble_eq_true rfl) (Nat.le_of_ble_eq_true rfl) (Nat.le_of_ble_eq_true rfl) hlocks (fun t _ h1 h2 => zX_of hS h1 h2) hS.2.2 (Nat.le_of_ble_eq_true rfl) (Nat.le_of_ble_eq_true rfl)
  · refine lv_iload_n hx hb dX11_checkKind_4 rfl (lv_at hl 1 rfl) ?_
    refine lv_iconst (v := 4) hx hb dX11_checkKind_5 (by decide) ?_
    refine lv_icmp_le (tgt := 20) hx hb dX11_checkKind_6 (by decide) (fun zc => absurd zc (zbadk_4 hz c1)) (fun _ => ?_)
    obtain ⟨sa, hsa⟩ := hT.2.1 ("KindredBooks", 404, "there is no such kind of lines") (by decide)
    exact vx_throwSW (own := "KindredBooks") (cls := "java/lang/IllegalArgumentException") (names := ["java/lang/RuntimeException", "java/lang/Exception"]) (XC := zX "java/lang/IllegalArgumentException" A) hx hb hfl hown (by decide) (by decide) (hw _ mw_540) (hw _ mw_33) hsa (z_at hw hT.1 xat_KindredBooks_102_IllegalArgumentException) xgd_KindredBooks_102_98 hE.2.2.2.2.2.1 hE.2.2.2.2.2.2 hS (hl.1.trans hml.symm) dX11_checkKind_9 dX11_checkKind_12 dX11_checkKind_13 dX11_checkKind_16 dX11_checkKind_19 (fun x hx => (hno x hx).elim) (Nat.le_of_ble_eq_true rfl) (Nat.le_of_ble_eq_true rfl) (Nat.le_of_ble_eq_true rfl) (Nat.le_of_ble_eq_true rfl) hlocks (fun t _ h1 h2 => zX_of hS h1 h2) hS.2.2 (Nat.le_of_ble_eq_true rfl) (Nat.le_of_ble_eq_true rfl)
set_option maxHeartbeats 4000000 in
set_option maxRecDepth 100000 in
/-- checkKind: a kind -/
theorem c_checkKind_ok (l : Launch) (D : va_G) (dA : Nat → ClassId) (dZ : Nat → Nat) (sz : Nat) (ax : Nat) (b : Int32) (hz : zokk b) : Met l yX11_checkKind (wz yX11_checkKind cX11_checkKind 2 none) ({ frames := 0, cells := 0, slots := 0, locals := 0 } : Room) (va_Pc [.ref ax, .int b] (zP D dA dZ [] sz)) (va_Qv (fun (_ : Unit) => True) (fun _ => zB D (va_A [] sz) []) (va_A [] sz)) 0 0 (va_A [] sz) := by
  refine Met.ofW (cc := cX11_checkKind) (maxL := 2) (ret := none) (by decide) rfl ?_
  intro p e s m args below meth c s₁ B hml hv
  obtain ⟨rfl, hsz, hP, hK, hD0, hT, hE⟩ := hv
  have hx := B.exec
  have hb := B.bytes
  have hr := B.returns
  have hw := wz_hw (atoms_spec (ws := wz yX11_checkKind cX11_checkKind 2 none) B.pre)
  have hown : s.vm.findClass "KindredBooks" = some m.cls := findClass_of_methodNamed B.named
  have hlocks := B.notSynchronized
  have hn := hT.1.use (args := ([.ref ax, .int b] : List Value).toArray)
  subst hsz
  have hD := hD0.self (sz := s.heap.size)
  generalize hAe : va_A [] s.heap.size = A at hD hE ⊢
  have hA : ∀ q : Nat, s.heap.size ≤ q → A q := fun q h => by rw [← hAe]; exact Or.inr h
  have hS : va_S A s.heap s.heap [] := va_S.rf
  replace hP : va_P D zcl [] s.heap := hP
  have hl := lv_entry ([.ref ax, .int b]) (n := 2) (Nat.le_of_ble_eq_true rfl)
  rw [lg_entry_eq]
  generalize (lg_sl ([.ref ax, .int b]) ++ List.replicate (2 - (lg_sl ([.ref ax, .int b])).length) Slot.unset).toArray = ls at hl ⊢
  replace hl : lv_has ls 2 [(0, .ref ax), (1, .int b)] := hl
  refine lv_iload_n hx hb dX11_checkKind_0 rfl (lv_at hl 1 rfl) ?_
  refine lv_if_lt (tgt := 9) hx hb dX11_checkKind_1 (by decide) (fun zc => absurd zc hz.1) (fun _ => ?_)
  refine lv_iload_n hx hb dX11_checkKind_4 rfl (lv_at hl 1 rfl) ?_
  refine lv_iconst (v := 4) hx hb dX11_checkKind_5 (by decide) ?_
  refine lv_icmp_le (tgt := 20) hx hb dX11_checkKind_6 (by decide) (fun _ => ?_) (fun zc => absurd hz.2 zc)
  have hP9 := hP.sub (ws' := []) [] rfl
  have hD9 := hD.sub (ws' := []) [] (by decide) rfl
  exact W.vret hx hb hr (fun t ht hW => ⟨⟨(), rfl, trivial, by rw [ht]; exact hP9, hD9⟩, hS.F ht⟩) hS.2.2 dX11_checkKind_20
set_option maxHeartbeats 4000000 in
set_option maxRecDepth 100000 in
/-- refresh of a fresh book -/
theorem c_refresh0 (l : Launch) (D : va_G) (dA : Nat → ClassId) (dZ : Nat → Nat) (sz : Nat) (kn : Nat) (bk : Nat) (xl : Nat) (k1 : Nat) (k2 : Nat) (k3 : Nat) (k4 : Nat) (k5 : Nat) (k6 : Nat) (k7 : Nat) (k8 : Nat) (k9 : Nat) (b1 : Nat) (b2 : Nat) (b3 : Nat) (b4 : Nat) (bl : Nat) (no : Nat) (ro : Nat) (hd : Int32) (f1 : Nat → Int32) (f2 : Nat → Int32) (f5 : Nat → Int32) : Met l yX5_refresh (wz yX5_refresh cX5_refresh 2 none) ({ frames := 4, cells := 0, slots := 0, locals := 120 } : Room) (va_Pc [.ref kn] (zP D dA dZ [(kn, .inr (6, [.ref bk, .ref xl, .ref k1, .ref k2, .ref k3, .int 0, .ref k4, .ref k5, .ref k6, .ref k7, .ref k8, .ref k9, .int (-1)])), (bk, .inr (5, [.int hd, .ref xl, .ref b1, .ref b2, .ref b3, .ref b4, .int 0, .int 0, .int 0])), (b3, .inl (dA 1, 250, .inl (fun _ => 0))), (xl, .inr (2, [.ref bl, .ref no, .ref ro, .int 0])), (k1, .inl (dA 0, 250, .inl f1)), (k2, .inl (dA 1, 250, .inl f2)), (k5, .inl (dA 0, 251, .inl f5))] sz)) (va_Qv (fun (u : (Nat → Int32) × (Nat → Int32) × (Nat → Int32)) => True) (fun u => zB D (va_A [(kn, .inr (6, [.ref bk, .ref xl, .ref k1, .ref k2, .ref k3, .int 0, .ref k4, .ref k5, .ref k6, .ref k7, .ref k8, .ref k9, .int (-1)])), (bk, .inr (5, [.int hd, .ref xl, .ref b1, .ref b2, .ref b3, .ref b4, .int 0, .int 0, .int 0])), (b3, .inl (dA 1, 250, .inl (fun _ => 0))), (xl, .inr (2, [.ref bl, .ref no, .ref ro, .int 0])), (k1, .inl (dA 0, 250, .inl f1)), (k2, .inl (dA 1, 250, .inl f2)), (k5, .inl (dA 0, 251, .inl f5))] sz) [(kn, .inr (6, [.ref bk, .ref xl, .ref k1, .ref k2, .ref k3, .int 0, .ref k4, .ref k5, .ref k6, .ref k7, .ref k8, .ref k9, .int 0])), (bk, .inr (5, [.int hd, .ref xl, .ref b1, .ref b2, .ref b3, .ref b4, .int 0, .int 0, .int 0])), (b3, .inl (dA 1, 250, .inl (fun _ => 0))), (xl, .inr (2, [.ref bl, .ref no, .ref ro, .int 0])), (k1, .inl (dA 0, 250, .inl u.1)), (k2, .inl (dA 1, 250, .inl u.2.1)), (k5, .inl (dA 0, 251, .inl u.2.2))]) (va_A [(kn, .inr (6, [.ref bk, .ref xl, .ref k1, .ref k2, .ref k3, .int 0, .ref k4, .ref k5, .ref k6, .ref k7, .ref k8, .ref k9, .int (-1)])), (bk, .inr (5, [.int hd, .ref xl, .ref b1, .ref b2, .ref b3, .ref b4, .int 0, .int 0, .int 0])), (b3, .inl (dA 1, 250, .inl (fun _ => 0))), (xl, .inr (2, [.ref bl, .ref no, .ref ro, .int 0])), (k1, .inl (dA 0, 250, .inl f1)), (k2, .inl (dA 1, 250, .inl f2)), (k5, .inl (dA 0, 251, .inl f5))] sz)) 0 0 (va_A [(kn, .inr (6, [.ref bk, .ref xl, .ref k1, .ref k2, .ref k3, .int 0, .ref k4, .ref k5, .ref k6, .ref k7, .ref k8, .ref k9, .int (-1)])), (bk, .inr (5, [.int hd, .ref xl, .ref b1, .ref b2, .ref b3, .ref b4, .int 0, .int 0, .int 0])), (b3, .inl (dA 1, 250, .inl (fun _ => 0))), (xl, .inr (2, [.ref bl, .ref no, .ref ro, .int 0])), (k1, .inl (dA 0, 250, .inl f1)), (k2, .inl (dA 1, 250, .inl f2)), (k5, .inl (dA 0, 251, .inl f5))] sz) := by
  refine Met.ofW (cc := cX5_refresh) (maxL := 2) (ret := none) (by decide) rfl ?_
  intro p e s m args below meth c s₁ B hml hv
  obtain ⟨rfl, hsz, hP, hK, hD0, hT, hE⟩ := hv
  have hx := B.exec
  have hb := B.bytes
  have hr := B.returns
  have hw := wz_hw (atoms_spec (ws := wz yX5_refresh cX5_refresh 2 none) B.pre)
  have hown : s.vm.findClass "KindredBooks$Kin" = some m.cls := findClass_of_methodNamed B.named
  have hlocks := B.notSynchronized
  have hn := hT.1.use (args := ([.ref kn] : List Value).toArray)
  subst hsz
  have hD := hD0.self (sz := s.heap.size)
  generalize hAe : va_A [(kn, .inr (6, [.ref bk, .ref xl, .ref k1, .ref k2, .ref k3, .int 0, .ref k4, .ref k5, .ref k6, .ref k7, .ref k8, .ref k9, .int (-1)])), (bk, .inr (5, [.int hd, .ref xl, .ref b1, .ref b2, .ref b3, .ref b4, .int 0, .int 0, .int 0])), (b3, .inl (dA 1, 250, .inl (fun _ => 0))), (xl, .inr (2, [.ref bl, .ref no, .ref ro, .int 0])), (k1, .inl (dA 0, 250, .inl f1)), (k2, .inl (dA 1, 250, .inl f2)), (k5, .inl (dA 0, 251, .inl f5))] s.heap.size = A at hD hE ⊢
  have hA : ∀ q : Nat, s.heap.size ≤ q → A q := fun q h => by rw [← hAe]; exact Or.inr h
  have hS : va_S A s.heap s.heap [] := va_S.rf
  replace hP : va_P D zcl [(kn, .inr (6, [.ref bk, .ref xl, .ref k1, .ref k2, .ref k3, .int 0, .ref k4, .ref k5, .ref k6, .ref k7, .ref k8, .ref k9, .int (-1)])), (bk, .inr (5, [.int hd, .ref xl, .ref b1, .ref b2, .ref b3, .ref b4, .int 0, .int 0, .int 0])), (b3, .inl (dA 1, 250, .inl (fun _ => 0))), (xl, .inr (2, [.ref bl, .ref no, .ref ro, .int 0])), (k1, .inl (dA 0, 250, .inl f1)), (k2, .inl (dA 1, 250, .inl f2)), (k5, .inl (dA 0, 251, .inl f5))] s.heap := hP
  have hl := lv_entry ([.ref kn]) (n := 2) (Nat.le_of_ble_eq_true rfl)
  rw [lg_entry_eq]
  generalize (lg_sl ([.ref kn]) ++ List.replicate (2 - (lg_sl ([.ref kn])).length) Slot.unset).toArray = ls at hl ⊢
  replace hl : lv_has ls 2 [(0, .ref kn)] := hl
  refine lv_aload_n hx hb dX5_refresh_0 rfl (lv_at hl 0 rfl) ?_
  refine va_get (D := D) (ci := 6) (v := .int (-1)) (C := "KindredBooks$Kin") (T := T_zk6) (N := 13) hx hb hw in_zk6 hown hK hP 0 rfl rfl 12 (by decide) (hw _ mw_318) (fun _ h9 => h9) rfl dX5_refresh_1 ?_
  refine lv_aload_n hx hb dX5_refresh_4 rfl (lv_at hl 0 rfl) ?_
  refine va_get (D := D) (ci := 6) (v := .ref bk) (C := "KindredBooks$Kin") (T := T_zk6) (N := 13) hx hb hw in_zk6 hown hK hP 0 rfl rfl 0 (by decide) (hw _ mw_304) (fun _ h9 => h9) rfl dX5_refresh_5 ?_
  refine va_getN (D := D) (ci := 5) (v := .int 0) (C := "KindredBooks$Book") (T := T_zk5) (N := 9) hx hb hw in_zk5 hown hK hP 1 rfl rfl 8 (by decide) (hn _ mn_279) (fun _ h9 => h9) rfl dX5_refresh_8 ?_
  refine lv_icmp_ne (tgt := 15) hx hb dX5_refresh_11 (by decide) (fun _ => ?_) (fun zc => absurd zc (by decide))
  refine lv_aload_n hx hb dX5_refresh_15 rfl (lv_at hl 0 rfl) ?_
  refine lv_aload_n hx hb dX5_refresh_16 rfl (lv_at hl 0 rfl) ?_
  refine va_get (D := D) (ci := 6) (v := .ref bk) (C := "KindredBooks$Kin") (T := T_zk6) (N := 13) hx hb hw in_zk6 hown hK hP 0 rfl rfl 0 (by decide) (hw _ mw_304) (fun _ h9 => h9) rfl dX5_refresh_17 ?_
  refine va_getN (D := D) (ci := 5) (v := .int 0) (C := "KindredBooks$Book") (T := T_zk5) (N := 9) hx hb hw in_zk5 hown hK hP 1 rfl rfl 8 (by decide) (hn _ mn_279) (fun _ h9 => h9) rfl dX5_refresh_20 ?_
  refine va_put (D := D) (ci := 6) (v := .int 0) (ty := .int) (C := "KindredBooks$Kin") (T := T_zk6) (N := 13) hx hb hw in_zk6 ty_zk6 ok_zk6 nm_zk6 hown hK hP hD hS 0 rfl rfl 12 (by decide) (hw _ mw_318) (fun _ h9 => h9) rfl (by decide +kernel) rfl rfl (Nat.le_of_ble_eq_true rfl) dX5_refresh_23 (fun H locs hP hD hS => ?_)
  have hP : va_P D zcl [(kn, .inr (6, [.ref bk, .ref xl, .ref k1, .ref k2, .ref k3, .int 0, .ref k4, .ref k5, .ref k6, .ref k7, .ref k8, .ref k9, .int 0])), (bk, .inr (5, [.int hd, .ref xl, .ref b1, .ref b2, .ref b3, .ref b4, .int 0, .int 0, .int 0])), (b3, .inl (dA 1, 250, .inl (fun _ => 0))), (xl, .inr (2, [.ref bl, .ref no, .ref ro, .int 0])), (k1, .inl (dA 0, 250, .inl f1)), (k2, .inl (dA 1, 250, .inl f2)), (k5, .inl (dA 0, 251, .inl f5))] H := hP
  have hD : va_D A [(kn, .inr (6, [.ref bk, .ref xl, .ref k1, .ref k2, .ref k3, .int 0, .ref k4, .ref k5, .ref k6, .ref k7, .ref k8, .ref k9, .int 0])), (bk, .inr (5, [.int hd, .ref xl, .ref b1, .ref b2, .ref b3, .ref b4, .int 0, .int 0, .int 0])), (b3, .inl (dA 1, 250, .inl (fun _ => 0))), (xl, .inr (2, [.ref bl, .ref no, .ref ro, .int 0])), (k1, .inl (dA 0, 250, .inl f1)), (k2, .inl (dA 1, 250, .inl f2)), (k5, .inl (dA 0, 251, .inl f5))] := hD
  refine lv_aload_n hx hb dX5_refresh_26 rfl (lv_at hl 0 rfl) ?_
  have hPc := hP.sub (ws' := [(kn, .inr (6, [.ref bk, .ref xl, .ref k1, .ref k2, .ref k3, .int 0, .ref k4, .ref k5, .ref k6, .ref k7, .ref k8, .ref k9, .int 0])), (bk, .inr (5, [.int hd, .ref xl, .ref b1, .ref b2, .ref b3, .ref b4, .int 0, .int 0, .int 0])), (b3, .inl (dA 1, 250, .inl (fun _ => 0))), (k1, .inl (dA 0, 250, .inl f1)), (k2, .inl (dA 1, 250, .inl f2))]) [0, 1, 2, 4, 5] rfl
  have hDc := hD.sub (ws' := [(kn, .inr (6, [.ref bk, .ref xl, .ref k1, .ref k2, .ref k3, .int 0, .ref k4, .ref k5, .ref k6, .ref k7, .ref k8, .ref k9, .int 0])), (bk, .inr (5, [.int hd, .ref xl, .ref b1, .ref b2, .ref b3, .ref b4, .int 0, .int 0, .int 0])), (b3, .inl (dA 1, 250, .inl (fun _ => 0))), (k1, .inl (dA 0, 250, .inl f1)), (k2, .inl (dA 1, 250, .inl f2))]) [0, 1, 2, 4, 5] (by decide) rfl
  have hFc := va_free (wc := [(kn, .inr (6, [.ref bk, .ref xl, .ref k1, .ref k2, .ref k3, .int 0, .ref k4, .ref k5, .ref k6, .ref k7, .ref k8, .ref k9, .int 0])), (bk, .inr (5, [.int hd, .ref xl, .ref b1, .ref b2, .ref b3, .ref b4, .int 0, .int 0, .int 0])), (b3, .inl (dA 1, 250, .inl (fun _ => 0))), (k1, .inl (dA 0, 250, .inl f1)), (k2, .inl (dA 1, 250, .inl f2))]) hD hS hA [0, 1, 2, 4, 5] rfl
  refine va_callv (va_runV (As := []) (rest := []) ⟨hx, hb, hml, hown, hw⟩ (c_joinEntries0 l D dA dZ _ kn bk xl k1 k2 k3 k4 k5 k6 k7 k8 k9 b1 b2 b3 b4 hd 0 0 0 f1 f2) (z_cwV 0 hw mw_871 mw_873 ms_18 mw_10 mw_874 rfl rfl (by decide +kernel) ⟨Nat.le_of_ble_eq_true rfl, Nat.le_of_ble_eq_true rfl⟩) (zPreV hPc hK hDc hT hE hS hFc (va_recv hK hP (ci := 6) (q0 := 0) rfl rfl)) rfl rfl hl.1 rfl (lv_room (Nat.le_of_ble_eq_true rfl)) dX5_refresh_27 ⟨Nat.le_of_ble_eq_true rfl, Nat.le_of_ble_eq_true rfl⟩) hS (fun q _ h => hFc q h) hFc (fun u t H1 locs ht hvm hpo hB hz1 hk1 hS => ?_)
  obtain ⟨g1, g2⟩ := u
  try dsimp only at hpo hB
  obtain ⟨hP1, hD1⟩ := hB
  rw [ht] at hP1
  obtain ⟨hP, hD⟩ := va_join (wr := [(xl, .inr (2, [.ref bl, .ref no, .ref ro, .int 0])), (k5, .inl (dA 0, 251, .inl f5))]) (w1 := [(kn, .inr (6, [.ref bk, .ref xl, .ref k1, .ref k2, .ref k3, .int 0, .ref k4, .ref k5, .ref k6, .ref k7, .ref k8, .ref k9, .int 0])), (bk, .inr (5, [.int hd, .ref xl, .ref b1, .ref b2, .ref b3, .ref b4, .int 0, .int 0, .int 0])), (b3, .inl (dA 1, 250, .inl (fun _ => 0))), (k1, .inl (dA 0, 250, .inl g1)), (k2, .inl (dA 1, 250, .inl g2))]) hP hD [0, 1, 2, 4, 5] [3, 6] rfl rfl (by decide) (by decide) hk1 hFc hP1 hD1
  generalize H1 = H at hP hS ⊢
  have hP : va_P D zcl [(xl, .inr (2, [.ref bl, .ref no, .ref ro, .int 0])), (k5, .inl (dA 0, 251, .inl f5)), (kn, .inr (6, [.ref bk, .ref xl, .ref k1, .ref k2, .ref k3, .int 0, .ref k4, .ref k5, .ref k6, .ref k7, .ref k8, .ref k9, .int 0])), (bk, .inr (5, [.int hd, .ref xl, .ref b1, .ref b2, .ref b3, .ref b4, .int 0, .int 0, .int 0])), (b3, .inl (dA 1, 250, .inl (fun _ => 0))), (k1, .inl (dA 0, 250, .inl g1)), (k2, .inl (dA 1, 250, .inl g2))] H := hP
  have hD : va_D A [(xl, .inr (2, [.ref bl, .ref no, .ref ro, .int 0])), (k5, .inl (dA 0, 251, .inl f5)), (kn, .inr (6, [.ref bk, .ref xl, .ref k1, .ref k2, .ref k3, .int 0, .ref k4, .ref k5, .ref k6, .ref k7, .ref k8, .ref k9, .int 0])), (bk, .inr (5, [.int hd, .ref xl, .ref b1, .ref b2, .ref b3, .ref b4, .int 0, .int 0, .int 0])), (b3, .inl (dA 1, 250, .inl (fun _ => 0))), (k1, .inl (dA 0, 250, .inl g1)), (k2, .inl (dA 1, 250, .inl g2))] := hD
  refine lv_aload_n hx hb dX5_refresh_30 rfl (lv_at hl 0 rfl) ?_
  have hPc := hP.sub (ws' := [(kn, .inr (6, [.ref bk, .ref xl, .ref k1, .ref k2, .ref k3, .int 0, .ref k4, .ref k5, .ref k6, .ref k7, .ref k8, .ref k9, .int 0])), (xl, .inr (2, [.ref bl, .ref no, .ref ro, .int 0]))]) [2, 0] rfl
  have hDc := hD.sub (ws' := [(kn, .inr (6, [.ref bk, .ref xl, .ref k1, .ref k2, .ref k3, .int 0, .ref k4, .ref k5, .ref k6, .ref k7, .ref k8, .ref k9, .int 0])), (xl, .inr (2, [.ref bl, .ref no, .ref ro, .int 0]))]) [2, 0] (by decide) rfl
  have hFc := va_free (wc := [(kn, .inr (6, [.ref bk, .ref xl, .ref k1, .ref k2, .ref k3, .int 0, .ref k4, .ref k5, .ref k6, .ref k7, .ref k8, .ref k9, .int 0])), (xl, .inr (2, [.ref bl, .ref no, .ref ro, .int 0]))]) hD hS hA [2, 0] rfl
  refine va_callv (va_runV (As := []) (rest := []) ⟨hx, hb, hml, hown, hw⟩ (c_listGroups0 l D dA dZ _ kn bk xl k1 k2 k3 k4 k5 k6 k7 k8 k9 bl no ro 0 0) (z_cwV 0 hw mw_895 mw_897 ms_20 mw_10 mw_898 rfl rfl (by decide +kernel) ⟨Nat.le_of_ble_eq_true rfl, Nat.le_of_ble_eq_true rfl⟩) (zPreV hPc hK hDc hT hE hS hFc (va_recv hK hP (ci := 6) (q0 := 2) rfl rfl)) rfl rfl hl.1 rfl (lv_room (Nat.le_of_ble_eq_true rfl)) dX5_refresh_31 ⟨Nat.le_of_ble_eq_true rfl, Nat.le_of_ble_eq_true rfl⟩) hS (fun q _ h => hFc q h) hFc (fun u t H1 locs ht hvm hpo hB hz1 hk1 hS => ?_)
  obtain ⟨hP1, hD1⟩ := hB
  rw [ht] at hP1
  obtain ⟨hP, hD⟩ := va_join (wr := [(k5, .inl (dA 0, 251, .inl f5)), (bk, .inr (5, [.int hd, .ref xl, .ref b1, .ref b2, .ref b3, .ref b4, .int 0, .int 0, .int 0])), (b3, .inl (dA 1, 250, .inl (fun _ => 0))), (k1, .inl (dA 0, 250, .inl g1)), (k2, .inl (dA 1, 250, .inl g2))]) (w1 := [(kn, .inr (6, [.ref bk, .ref xl, .ref k1, .ref k2, .ref k3, .int 0, .ref k4, .ref k5, .ref k6, .ref k7, .ref k8, .ref k9, .int 0])), (xl, .inr (2, [.ref bl, .ref no, .ref ro, .int 0]))]) hP hD [2, 0] [1, 3, 4, 5, 6] rfl rfl (by decide) (by decide) hk1 hFc hP1 hD1
  generalize H1 = H at hP hS ⊢
  have hP : va_P D zcl [(k5, .inl (dA 0, 251, .inl f5)), (bk, .inr (5, [.int hd, .ref xl, .ref b1, .ref b2, .ref b3, .ref b4, .int 0, .int 0, .int 0])), (b3, .inl (dA 1, 250, .inl (fun _ => 0))), (k1, .inl (dA 0, 250, .inl g1)), (k2, .inl (dA 1, 250, .inl g2)), (kn, .inr (6, [.ref bk, .ref xl, .ref k1, .ref k2, .ref k3, .int 0, .ref k4, .ref k5, .ref k6, .ref k7, .ref k8, .ref k9, .int 0])), (xl, .inr (2, [.ref bl, .ref no, .ref ro, .int 0]))] H := hP
  have hD : va_D A [(k5, .inl (dA 0, 251, .inl f5)), (bk, .inr (5, [.int hd, .ref xl, .ref b1, .ref b2, .ref b3, .ref b4, .int 0, .int 0, .int 0])), (b3, .inl (dA 1, 250, .inl (fun _ => 0))), (k1, .inl (dA 0, 250, .inl g1)), (k2, .inl (dA 1, 250, .inl g2)), (kn, .inr (6, [.ref bk, .ref xl, .ref k1, .ref k2, .ref k3, .int 0, .ref k4, .ref k5, .ref k6, .ref k7, .ref k8, .ref k9, .int 0])), (xl, .inr (2, [.ref bl, .ref no, .ref ro, .int 0]))] := hD
  refine lv_aload_n hx hb dX5_refresh_34 rfl (lv_at hl 0 rfl) ?_
  have hPc := hP.sub (ws' := [(kn, .inr (6, [.ref bk, .ref xl, .ref k1, .ref k2, .ref k3, .int 0, .ref k4, .ref k5, .ref k6, .ref k7, .ref k8, .ref k9, .int 0])), (bk, .inr (5, [.int hd, .ref xl, .ref b1, .ref b2, .ref b3, .ref b4, .int 0, .int 0, .int 0])), (xl, .inr (2, [.ref bl, .ref no, .ref ro, .int 0])), (k5, .inl (dA 0, 251, .inl f5))]) [5, 1, 6, 0] rfl
  have hDc := hD.sub (ws' := [(kn, .inr (6, [.ref bk, .ref xl, .ref k1, .ref k2, .ref k3, .int 0, .ref k4, .ref k5, .ref k6, .ref k7, .ref k8, .ref k9, .int 0])), (bk, .inr (5, [.int hd, .ref xl, .ref b1, .ref b2, .ref b3, .ref b4, .int 0, .int 0, .int 0])), (xl, .inr (2, [.ref bl, .ref no, .ref ro, .int 0])), (k5, .inl (dA 0, 251, .inl f5))]) [5, 1, 6, 0] (by decide) rfl
  have hFc := va_free (wc := [(kn, .inr (6, [.ref bk, .ref xl, .ref k1, .ref k2, .ref k3, .int 0, .ref k4, .ref k5, .ref k6, .ref k7, .ref k8, .ref k9, .int 0])), (bk, .inr (5, [.int hd, .ref xl, .ref b1, .ref b2, .ref b3, .ref b4, .int 0, .int 0, .int 0])), (xl, .inr (2, [.ref bl, .ref no, .ref ro, .int 0])), (k5, .inl (dA 0, 251, .inl f5))]) hD hS hA [5, 1, 6, 0] rfl
  refine va_callv (va_runV (As := []) (rest := []) ⟨hx, hb, hml, hown, hw⟩ (c_placeLines0 l D dA dZ _ kn bk xl k1 k2 k3 k4 k5 k6 k7 k8 k9 b1 b2 b3 b4 bl no ro hd 0 0 0 f5) (z_cwV 0 hw mw_899 mw_901 ms_21 mw_10 mw_902 rfl rfl (by decide +kernel) ⟨Nat.le_of_ble_eq_true rfl, Nat.le_of_ble_eq_true rfl⟩) (zPreV hPc hK hDc hT hE hS hFc (va_recv hK hP (ci := 6) (q0 := 5) rfl rfl)) rfl rfl hl.1 rfl (lv_room (Nat.le_of_ble_eq_true rfl)) dX5_refresh_35 ⟨Nat.le_of_ble_eq_true rfl, Nat.le_of_ble_eq_true rfl⟩) hS (fun q _ h => hFc q h) hFc (fun u t H1 locs ht hvm hpo hB hz1 hk1 hS => ?_)
  obtain ⟨g5, rfl⟩ : ∃ z, z = u := ⟨_, rfl⟩
  try dsimp only at hpo hB
  obtain ⟨hP1, hD1⟩ := hB
  rw [ht] at hP1
  obtain ⟨hP, hD⟩ := va_join (wr := [(b3, .inl (dA 1, 250, .inl (fun _ => 0))), (k1, .inl (dA 0, 250, .inl g1)), (k2, .inl (dA 1, 250, .inl g2))]) (w1 := [(kn, .inr (6, [.ref bk, .ref xl, .ref k1, .ref k2, .ref k3, .int 0, .ref k4, .ref k5, .ref k6, .ref k7, .ref k8, .ref k9, .int 0])), (bk, .inr (5, [.int hd, .ref xl, .ref b1, .ref b2, .ref b3, .ref b4, .int 0, .int 0, .int 0])), (xl, .inr (2, [.ref bl, .ref no, .ref ro, .int 0])), (k5, .inl (dA 0, 251, .inl g5))]) hP hD [5, 1, 6, 0] [2, 3, 4] rfl rfl (by decide) (by decide) hk1 hFc hP1 hD1
  generalize H1 = H at hP hS ⊢
  have hP : va_P D zcl [(b3, .inl (dA 1, 250, .inl (fun _ => 0))), (k1, .inl (dA 0, 250, .inl g1)), (k2, .inl (dA 1, 250, .inl g2)), (kn, .inr (6, [.ref bk, .ref xl, .ref k1, .ref k2, .ref k3, .int 0, .ref k4, .ref k5, .ref k6, .ref k7, .ref k8, .ref k9, .int 0])), (bk, .inr (5, [.int hd, .ref xl, .ref b1, .ref b2, .ref b3, .ref b4, .int 0, .int 0, .int 0])), (xl, .inr (2, [.ref bl, .ref no, .ref ro, .int 0])), (k5, .inl (dA 0, 251, .inl g5))] H := hP
  have hD : va_D A [(b3, .inl (dA 1, 250, .inl (fun _ => 0))), (k1, .inl (dA 0, 250, .inl g1)), (k2, .inl (dA 1, 250, .inl g2)), (kn, .inr (6, [.ref bk, .ref xl, .ref k1, .ref k2, .ref k3, .int 0, .ref k4, .ref k5, .ref k6, .ref k7, .ref k8, .ref k9, .int 0])), (bk, .inr (5, [.int hd, .ref xl, .ref b1, .ref b2, .ref b3, .ref b4, .int 0, .int 0, .int 0])), (xl, .inr (2, [.ref bl, .ref no, .ref ro, .int 0])), (k5, .inl (dA 0, 251, .inl g5))] := hD
  refine lv_iconst (v := 0) hx hb dX5_refresh_38 (by decide) ?_
  refine lv_istore_n (lv' := [(1, .int 0), (0, .ref kn)]) hx hb dX5_refresh_39 rfl hl (by decide) rfl (fun ls hl => ?_)
  refine lv_iload_n hx hb dX5_refresh_40 rfl (lv_at hl 0 rfl) ?_
  refine lv_aload_n hx hb dX5_refresh_41 rfl (lv_at hl 1 rfl) ?_
  refine va_get (D := D) (ci := 6) (v := .int 0) (C := "KindredBooks$Kin") (T := T_zk6) (N := 13) hx hb hw in_zk6 hown hK hP 3 rfl rfl 5 (by decide) (hw _ mw_309) (fun _ h9 => h9) rfl dX5_refresh_42 ?_
  refine lv_icmp_ge (tgt := 63) hx hb dX5_refresh_45 (by decide) (fun _ => ?_) (fun zc => absurd (by decide) zc)
  have hP9 := hP.sub (ws' := [(kn, .inr (6, [.ref bk, .ref xl, .ref k1, .ref k2, .ref k3, .int 0, .ref k4, .ref k5, .ref k6, .ref k7, .ref k8, .ref k9, .int 0])), (bk, .inr (5, [.int hd, .ref xl, .ref b1, .ref b2, .ref b3, .ref b4, .int 0, .int 0, .int 0])), (b3, .inl (dA 1, 250, .inl (fun _ => 0))), (xl, .inr (2, [.ref bl, .ref no, .ref ro, .int 0])), (k1, .inl (dA 0, 250, .inl g1)), (k2, .inl (dA 1, 250, .inl g2)), (k5, .inl (dA 0, 251, .inl g5))]) [3, 4, 0, 5, 1, 2, 6] rfl
  have hD9 := hD.sub (ws' := [(kn, .inr (6, [.ref bk, .ref xl, .ref k1, .ref k2, .ref k3, .int 0, .ref k4, .ref k5, .ref k6, .ref k7, .ref k8, .ref k9, .int 0])), (bk, .inr (5, [.int hd, .ref xl, .ref b1, .ref b2, .ref b3, .ref b4, .int 0, .int 0, .int 0])), (b3, .inl (dA 1, 250, .inl (fun _ => 0))), (xl, .inr (2, [.ref bl, .ref no, .ref ro, .int 0])), (k1, .inl (dA 0, 250, .inl g1)), (k2, .inl (dA 1, 250, .inl g2)), (k5, .inl (dA 0, 251, .inl g5))]) [3, 4, 0, 5, 1, 2, 6] (by decide) rfl
  exact W.vret hx hb hr (fun t ht hW => ⟨⟨(g1, g2, g5), rfl, trivial, by rw [ht]; exact hP9, hD9⟩, hS.F ht⟩) hS.2.2 dX5_refresh_63
set_option maxHeartbeats 4000000 in
set_option maxRecDepth 100000 in
/-- kinOf(i) of a fresh book -/
theorem c_kinOf (l : Launch) (D : va_G) (dA : Nat → ClassId) (dZ : Nat → Nat) (sz : Nat) (ax : Nat) (xt : Nat) (xp : Nat) (xs : Nat) (xl : Nat) (xb : Nat) (xk : Nat) (xm : Nat) (xq : Nat) (xg : Nat) (xf : Nat) (xe : Nat) (i : Nat) (fk : Nat → Option Nat) (kn : Nat) (bk : Nat) (k1 : Nat) (k2 : Nat) (k3 : Nat) (k4 : Nat) (k5 : Nat) (k6 : Nat) (k7 : Nat) (k8 : Nat) (k9 : Nat) (b1 : Nat) (b2 : Nat) (b3 : Nat) (b4 : Nat) (bl : Nat) (no : Nat) (ro : Nat) (hd : Int32) (f1 : Nat → Int32) (f2 : Nat → Int32) (f5 : Nat → Int32) (hi : i < 3) (hk : fk i = some kn) : Met l yX11_kinOf (wz yX11_kinOf cX11_kinOf 2 (some (.object "KindredBooks$Kin"))) ({ frames := 6, cells := 0, slots := 0, locals := 160 } : Room) (va_Pc [.ref ax, .int (nI i)] (zP D dA dZ [(ax, .inr (0, [.ref xt, .ref xp, .ref xs, .ref xl, .ref xb, .ref xk, .ref xm, .ref xq, .ref xg, .ref xf, .ref xe, .int 49])), (xk, .inl (dA 7, 3, .inr (.inr (.inr (.inr fk))))), (kn, .inr (6, [.ref bk, .ref xl, .ref k1, .ref k2, .ref k3, .int 0, .ref k4, .ref k5, .ref k6, .ref k7, .ref k8, .ref k9, .int (-1)])), (bk, .inr (5, [.int hd, .ref xl, .ref b1, .ref b2, .ref b3, .ref b4, .int 0, .int 0, .int 0])), (b3, .inl (dA 1, 250, .inl (fun _ => 0))), (xl, .inr (2, [.ref bl, .ref no, .ref ro, .int 0])), (k1, .inl (dA 0, 250, .inl f1)), (k2, .inl (dA 1, 250, .inl f2)), (k5, .inl (dA 0, 251, .inl f5))] sz)) (va_Qq (fun (r : Option Nat) (u : (Nat → Int32) × (Nat → Int32) × (Nat → Int32)) => r = (some kn)) (fun u => zB D (va_A [(ax, .inr (0, [.ref xt, .ref xp, .ref xs, .ref xl, .ref xb, .ref xk, .ref xm, .ref xq, .ref xg, .ref xf, .ref xe, .int 49])), (xk, .inl (dA 7, 3, .inr (.inr (.inr (.inr fk))))), (kn, .inr (6, [.ref bk, .ref xl, .ref k1, .ref k2, .ref k3, .int 0, .ref k4, .ref k5, .ref k6, .ref k7, .ref k8, .ref k9, .int (-1)])), (bk, .inr (5, [.int hd, .ref xl, .ref b1, .ref b2, .ref b3, .ref b4, .int 0, .int 0, .int 0])), (b3, .inl (dA 1, 250, .inl (fun _ => 0))), (xl, .inr (2, [.ref bl, .ref no, .ref ro, .int 0])), (k1, .inl (dA 0, 250, .inl f1)), (k2, .inl (dA 1, 250, .inl f2)), (k5, .inl (dA 0, 251, .inl f5))] sz) [(ax, .inr (0, [.ref xt, .ref xp, .ref xs, .ref xl, .ref xb, .ref xk, .ref xm, .ref xq, .ref xg, .ref xf, .ref xe, .int 49])), (xk, .inl (dA 7, 3, .inr (.inr (.inr (.inr fk))))), (kn, .inr (6, [.ref bk, .ref xl, .ref k1, .ref k2, .ref k3, .int 0, .ref k4, .ref k5, .ref k6, .ref k7, .ref k8, .ref k9, .int 0])), (bk, .inr (5, [.int hd, .ref xl, .ref b1, .ref b2, .ref b3, .ref b4, .int 0, .int 0, .int 0])), (b3, .inl (dA 1, 250, .inl (fun _ => 0))), (xl, .inr (2, [.ref bl, .ref no, .ref ro, .int 0])), (k1, .inl (dA 0, 250, .inl u.1)), (k2, .inl (dA 1, 250, .inl u.2.1)), (k5, .inl (dA 0, 251, .inl u.2.2))]) (va_A [(ax, .inr (0, [.ref xt, .ref xp, .ref xs, .ref xl, .ref xb, .ref xk, .ref xm, .ref xq, .ref xg, .ref xf, .ref xe, .int 49])), (xk, .inl (dA 7, 3, .inr (.inr (.inr (.inr fk))))), (kn, .inr (6, [.ref bk, .ref xl, .ref k1, .ref k2, .ref k3, .int 0, .ref k4, .ref k5, .ref k6, .ref k7, .ref k8, .ref k9, .int (-1)])), (bk, .inr (5, [.int hd, .ref xl, .ref b1, .ref b2, .ref b3, .ref b4, .int 0, .int 0, .int 0])), (b3, .inl (dA 1, 250, .inl (fun _ => 0))), (xl, .inr (2, [.ref bl, .ref no, .ref ro, .int 0])), (k1, .inl (dA 0, 250, .inl f1)), (k2, .inl (dA 1, 250, .inl f2)), (k5, .inl (dA 0, 251, .inl f5))] sz)) 0 0 (va_A [(ax, .inr (0, [.ref xt, .ref xp, .ref xs, .ref xl, .ref xb, .ref xk, .ref xm, .ref xq, .ref xg, .ref xf, .ref xe, .int 49])), (xk, .inl (dA 7, 3, .inr (.inr (.inr (.inr fk))))), (kn, .inr (6, [.ref bk, .ref xl, .ref k1, .ref k2, .ref k3, .int 0, .ref k4, .ref k5, .ref k6, .ref k7, .ref k8, .ref k9, .int (-1)])), (bk, .inr (5, [.int hd, .ref xl, .ref b1, .ref b2, .ref b3, .ref b4, .int 0, .int 0, .int 0])), (b3, .inl (dA 1, 250, .inl (fun _ => 0))), (xl, .inr (2, [.ref bl, .ref no, .ref ro, .int 0])), (k1, .inl (dA 0, 250, .inl f1)), (k2, .inl (dA 1, 250, .inl f2)), (k5, .inl (dA 0, 251, .inl f5))] sz) := by
  refine Met.ofW (cc := cX11_kinOf) (maxL := 2) (ret := (some (.object "KindredBooks$Kin"))) (by decide) rfl ?_
  intro p e s m args below meth c s₁ B hml hv
  obtain ⟨rfl, hsz, hP, hK, hD0, hT, hE⟩ := hv
  have hx := B.exec
  have hb := B.bytes
  have hr := B.returns
  have hw := wz_hw (atoms_spec (ws := wz yX11_kinOf cX11_kinOf 2 (some (.object "KindredBooks$Kin"))) B.pre)
  have hown : s.vm.findClass "KindredBooks" = some m.cls := findClass_of_methodNamed B.named
  have hlocks := B.notSynchronized
  have hn := hT.1.use (args := ([.ref ax, .int (nI i)] : List Value).toArray)
  subst hsz
  have hD := hD0.self (sz := s.heap.size)
  generalize hAe : va_A [(ax, .inr (0, [.ref xt, .ref xp, .ref xs, .ref xl, .ref xb, .ref xk, .ref xm, .ref xq, .ref xg, .ref xf, .ref xe, .int 49])), (xk, .inl (dA 7, 3, .inr (.inr (.inr (.inr fk))))), (kn, .inr (6, [.ref bk, .ref xl, .ref k1, .ref k2, .ref k3, .int 0, .ref k4, .ref k5, .ref k6, .ref k7, .ref k8, .ref k9, .int (-1)])), (bk, .inr (5, [.int hd, .ref xl, .ref b1, .ref b2, .ref b3, .ref b4, .int 0, .int 0, .int 0])), (b3, .inl (dA 1, 250, .inl (fun _ => 0))), (xl, .inr (2, [.ref bl, .ref no, .ref ro, .int 0])), (k1, .inl (dA 0, 250, .inl f1)), (k2, .inl (dA 1, 250, .inl f2)), (k5, .inl (dA 0, 251, .inl f5))] s.heap.size = A at hD hE ⊢
  have hA : ∀ q : Nat, s.heap.size ≤ q → A q := fun q h => by rw [← hAe]; exact Or.inr h
  have hS : va_S A s.heap s.heap [] := va_S.rf
  replace hP : va_P D zcl [(ax, .inr (0, [.ref xt, .ref xp, .ref xs, .ref xl, .ref xb, .ref xk, .ref xm, .ref xq, .ref xg, .ref xf, .ref xe, .int 49])), (xk, .inl (dA 7, 3, .inr (.inr (.inr (.inr fk))))), (kn, .inr (6, [.ref bk, .ref xl, .ref k1, .ref k2, .ref k3, .int 0, .ref k4, .ref k5, .ref k6, .ref k7, .ref k8, .ref k9, .int (-1)])), (bk, .inr (5, [.int hd, .ref xl, .ref b1, .ref b2, .ref b3, .ref b4, .int 0, .int 0, .int 0])), (b3, .inl (dA 1, 250, .inl (fun _ => 0))), (xl, .inr (2, [.ref bl, .ref no, .ref ro, .int 0])), (k1, .inl (dA 0, 250, .inl f1)), (k2, .inl (dA 1, 250, .inl f2)), (k5, .inl (dA 0, 251, .inl f5))] s.heap := hP
  have hl := lv_entry ([.ref ax, .int (nI i)]) (n := 2) (Nat.le_of_ble_eq_true rfl)
  rw [lg_entry_eq]
  generalize (lg_sl ([.ref ax, .int (nI i)]) ++ List.replicate (2 - (lg_sl ([.ref ax, .int (nI i)])).length) Slot.unset).toArray = ls at hl ⊢
  replace hl : lv_has ls 2 [(0, .ref ax), (1, .int (nI i))] := hl
  refine lv_iload_n hx hb dX11_kinOf_0 rfl (lv_at hl 1 rfl) ?_
  refine lv_if_lt (tgt := 9) hx hb dX11_kinOf_1 (by decide) (fun zc => absurd zc (nI_pos (by omega))) (fun _ => ?_)
  refine lv_iload_n hx hb dX11_kinOf_4 rfl (lv_at hl 1 rfl) ?_
  refine lv_iconst (v := 3) hx hb dX11_kinOf_5 (by decide) ?_
  refine lv_icmp_lt (tgt := 20) hx hb dX11_kinOf_6 (by decide) (fun _ => ?_) (fun zc => absurd (z3 hi) zc)
  refine lv_aload_n hx hb dX11_kinOf_20 rfl (lv_at hl 0 rfl) ?_
  refine va_get (D := D) (ci := 0) (v := .ref xk) (C := "KindredBooks") (T := T_zk0) (N := 12) hx hb hw in_zk0 hown hK hP 0 rfl rfl 5 (by decide) (hw _ mw_351) (fun _ h9 => h9) rfl dX11_kinOf_21 ?_
  refine lv_iload_n hx hb dX11_kinOf_24 rfl (lv_at hl 1 rfl) ?_
  refine va_aldq hx hb hK hP 1 7 rfl rfl (vp_in_nI hi (by omega)) dX11_kinOf_25 ?_
  refine W.eq (g2 := F0 m 26 ls [.ref kn]) (by rw [nI_clamp (by omega), hk]; rfl) ?_
  have hPc := hP.sub (ws' := [(kn, .inr (6, [.ref bk, .ref xl, .ref k1, .ref k2, .ref k3, .int 0, .ref k4, .ref k5, .ref k6, .ref k7, .ref k8, .ref k9, .int (-1)])), (bk, .inr (5, [.int hd, .ref xl, .ref b1, .ref b2, .ref b3, .ref b4, .int 0, .int 0, .int 0])), (b3, .inl (dA 1, 250, .inl (fun _ => 0))), (xl, .inr (2, [.ref bl, .ref no, .ref ro, .int 0])), (k1, .inl (dA 0, 250, .inl f1)), (k2, .inl (dA 1, 250, .inl f2)), (k5, .inl (dA 0, 251, .inl f5))]) [2, 3, 4, 5, 6, 7, 8] rfl
  have hDc := hD.sub (ws' := [(kn, .inr (6, [.ref bk, .ref xl, .ref k1, .ref k2, .ref k3, .int 0, .ref k4, .ref k5, .ref k6, .ref k7, .ref k8, .ref k9, .int (-1)])), (bk, .inr (5, [.int hd, .ref xl, .ref b1, .ref b2, .ref b3, .ref b4, .int 0, .int 0, .int 0])), (b3, .inl (dA 1, 250, .inl (fun _ => 0))), (xl, .inr (2, [.ref bl, .ref no, .ref ro, .int 0])), (k1, .inl (dA 0, 250, .inl f1)), (k2, .inl (dA 1, 250, .inl f2)), (k5, .inl (dA 0, 251, .inl f5))]) [2, 3, 4, 5, 6, 7, 8] (by decide) rfl
  have hFc := va_free (wc := [(kn, .inr (6, [.ref bk, .ref xl, .ref k1, .ref k2, .ref k3, .int 0, .ref k4, .ref k5, .ref k6, .ref k7, .ref k8, .ref k9, .int (-1)])), (bk, .inr (5, [.int hd, .ref xl, .ref b1, .ref b2, .ref b3, .ref b4, .int 0, .int 0, .int 0])), (b3, .inl (dA 1, 250, .inl (fun _ => 0))), (xl, .inr (2, [.ref bl, .ref no, .ref ro, .int 0])), (k1, .inl (dA 0, 250, .inl f1)), (k2, .inl (dA 1, 250, .inl f2)), (k5, .inl (dA 0, 251, .inl f5))]) hD hS hA [2, 3, 4, 5, 6, 7, 8] rfl
  refine va_callv (va_runV (As := []) (rest := []) ⟨hx, hb, hml, hown, hw⟩ (c_refresh0 l D dA dZ _ kn bk xl k1 k2 k3 k4 k5 k6 k7 k8 k9 b1 b2 b3 b4 bl no ro hd f1 f2 f5) (z_cwV 0 hw mw_867 mw_868 mw_869 mw_10 mw_870 rfl rfl (by decide +kernel) ⟨Nat.le_of_ble_eq_true rfl, Nat.le_of_ble_eq_true rfl⟩) (zPreV hPc hK hDc hT hE hS hFc (va_recv hK hP (ci := 6) (q0 := 2) rfl rfl)) rfl rfl hl.1 rfl (lv_room (Nat.le_of_ble_eq_true rfl)) dX11_kinOf_26 ⟨Nat.le_of_ble_eq_true rfl, Nat.le_of_ble_eq_true rfl⟩) hS (fun q _ h => hFc q h) hFc (fun u t H1 locs ht hvm hpo hB hz1 hk1 hS => ?_)
  obtain ⟨g1, g2, g5⟩ := u
  try dsimp only at hpo hB
  obtain ⟨hP1, hD1⟩ := hB
  rw [ht] at hP1
  obtain ⟨hP, hD⟩ := va_join (wr := [(ax, .inr (0, [.ref xt, .ref xp, .ref xs, .ref xl, .ref xb, .ref xk, .ref xm, .ref xq, .ref xg, .ref xf, .ref xe, .int 49])), (xk, .inl (dA 7, 3, .inr (.inr (.inr (.inr fk)))))]) (w1 := [(kn, .inr (6, [.ref bk, .ref xl, .ref k1, .ref k2, .ref k3, .int 0, .ref k4, .ref k5, .ref k6, .ref k7, .ref k8, .ref k9, .int 0])), (bk, .inr (5, [.int hd, .ref xl, .ref b1, .ref b2, .ref b3, .ref b4, .int 0, .int 0, .int 0])), (b3, .inl (dA 1, 250, .inl (fun _ => 0))), (xl, .inr (2, [.ref bl, .ref no, .ref ro, .int 0])), (k1, .inl (dA 0, 250, .inl g1)), (k2, .inl (dA 1, 250, .inl g2)), (k5, .inl (dA 0, 251, .inl g5))]) hP hD [2, 3, 4, 5, 6, 7, 8] [0, 1] rfl rfl (by decide) (by decide) hk1 hFc hP1 hD1
  generalize H1 = H at hP hS ⊢
  have hP : va_P D zcl [(ax, .inr (0, [.ref xt, .ref xp, .ref xs, .ref xl, .ref xb, .ref xk, .ref xm, .ref xq, .ref xg, .ref xf, .ref xe, .int 49])), (xk, .inl (dA 7, 3, .inr (.inr (.inr (.inr fk))))), (kn, .inr (6, [.ref bk, .ref xl, .ref k1, .ref k2, .ref k3, .int 0, .ref k4, .ref k5, .ref k6, .ref k7, .ref k8, .ref k9, .int 0])), (bk, .inr (5, [.int hd, .ref xl, .ref b1, .ref b2, .ref b3, .ref b4, .int 0, .int 0, .int 0])), (b3, .inl (dA 1, 250, .inl (fun _ => 0))), (xl, .inr (2, [.ref bl, .ref no, .ref ro, .int 0])), (k1, .inl (dA 0, 250, .inl g1)), (k2, .inl (dA 1, 250, .inl g2)), (k5, .inl (dA 0, 251, .inl g5))] H := hP
  have hD : va_D A [(ax, .inr (0, [.ref xt, .ref xp, .ref xs, .ref xl, .ref xb, .ref xk, .ref xm, .ref xq, .ref xg, .ref xf, .ref xe, .int 49])), (xk, .inl (dA 7, 3, .inr (.inr (.inr (.inr fk))))), (kn, .inr (6, [.ref bk, .ref xl, .ref k1, .ref k2, .ref k3, .int 0, .ref k4, .ref k5, .ref k6, .ref k7, .ref k8, .ref k9, .int 0])), (bk, .inr (5, [.int hd, .ref xl, .ref b1, .ref b2, .ref b3, .ref b4, .int 0, .int 0, .int 0])), (b3, .inl (dA 1, 250, .inl (fun _ => 0))), (xl, .inr (2, [.ref bl, .ref no, .ref ro, .int 0])), (k1, .inl (dA 0, 250, .inl g1)), (k2, .inl (dA 1, 250, .inl g2)), (k5, .inl (dA 0, 251, .inl g5))] := hD
  refine lv_aload_n hx hb dX11_kinOf_29 rfl (lv_at hl 0 rfl) ?_
  refine va_get (D := D) (ci := 0) (v := .ref xk) (C := "KindredBooks") (T := T_zk0) (N := 12) hx hb hw in_zk0 hown hK hP 0 rfl rfl 5 (by decide) (hw _ mw_351) (fun _ h9 => h9) rfl dX11_kinOf_30 ?_
  refine lv_iload_n hx hb dX11_kinOf_33 rfl (lv_at hl 1 rfl) ?_
  refine va_aldq hx hb hK hP 1 7 rfl rfl (vp_in_nI hi (by omega)) dX11_kinOf_34 ?_
  refine W.eq (g2 := F0 m 35 ls [.ref kn]) (by rw [nI_clamp (by omega), hk]; rfl) ?_
  have hP9 := hP.sub (ws' := [(ax, .inr (0, [.ref xt, .ref xp, .ref xs, .ref xl, .ref xb, .ref xk, .ref xm, .ref xq, .ref xg, .ref xf, .ref xe, .int 49])), (xk, .inl (dA 7, 3, .inr (.inr (.inr (.inr fk))))), (kn, .inr (6, [.ref bk, .ref xl, .ref k1, .ref k2, .ref k3, .int 0, .ref k4, .ref k5, .ref k6, .ref k7, .ref k8, .ref k9, .int 0])), (bk, .inr (5, [.int hd, .ref xl, .ref b1, .ref b2, .ref b3, .ref b4, .int 0, .int 0, .int 0])), (b3, .inl (dA 1, 250, .inl (fun _ => 0))), (xl, .inr (2, [.ref bl, .ref no, .ref ro, .int 0])), (k1, .inl (dA 0, 250, .inl g1)), (k2, .inl (dA 1, 250, .inl g2)), (k5, .inl (dA 0, 251, .inl g5))]) [0, 1, 2, 3, 4, 5, 6, 7, 8] rfl
  have hD9 := hD.sub (ws' := [(ax, .inr (0, [.ref xt, .ref xp, .ref xs, .ref xl, .ref xb, .ref xk, .ref xm, .ref xq, .ref xg, .ref xf, .ref xe, .int 49])), (xk, .inl (dA 7, 3, .inr (.inr (.inr (.inr fk))))), (kn, .inr (6, [.ref bk, .ref xl, .ref k1, .ref k2, .ref k3, .int 0, .ref k4, .ref k5, .ref k6, .ref k7, .ref k8, .ref k9, .int 0])), (bk, .inr (5, [.int hd, .ref xl, .ref b1, .ref b2, .ref b3, .ref b4, .int 0, .int 0, .int 0])), (b3, .inl (dA 1, 250, .inl (fun _ => 0))), (xl, .inr (2, [.ref bl, .ref no, .ref ro, .int 0])), (k1, .inl (dA 0, 250, .inl g1)), (k2, .inl (dA 1, 250, .inl g2)), (k5, .inl (dA 0, 251, .inl g5))]) [0, 1, 2, 3, 4, 5, 6, 7, 8] (by decide) rfl
  exact W.aret (v := .ref kn) hx hb hr (Or.inl ⟨_, rfl⟩) (Or.inr ⟨_, rfl⟩) (fun t ht hW => ⟨⟨(some kn), (g1, g2, g5), rfl, rfl, by rw [ht]; exact hP9, hD9⟩, hS.F ht⟩) hS.2.2 dX11_kinOf_35
set_option maxHeartbeats 4000000 in
set_option maxRecDepth 100000 in
/-- clearText on a fresh object: ok -/
theorem c_clearText_ok (l : Launch) (D : va_G) (dA : Nat → ClassId) (dZ : Nat → Nat) (sz : Nat) (ax : Nat) (xt : Nat) (xp : Nat) (xs : Nat) (xl : Nat) (xb : Nat) (xk : Nat) (xm : Nat) (xq : Nat) (xg : Nat) (xf : Nat) (xe : Nat) (tb : Nat) : Met l yX11_clearText (wz yX11_clearText cX11_clearText 2 (some .int)) ({ frames := 14, cells := 0, slots := 0, locals := 400 } : Room) (va_Pc [.ref ax] (zP D dA dZ [(ax, .inr (0, [.ref xt, .ref xp, .ref xs, .ref xl, .ref xb, .ref xk, .ref xm, .ref xq, .ref xg, .ref xf, .ref xe, .int 49])), (xt, .inr (1, [.ref tb, .int 0]))] sz)) (va_Qi (fun (r : Int32) (_ : Unit) => r = 0) (fun _ => zB D (va_A [(ax, .inr (0, [.ref xt, .ref xp, .ref xs, .ref xl, .ref xb, .ref xk, .ref xm, .ref xq, .ref xg, .ref xf, .ref xe, .int 49])), (xt, .inr (1, [.ref tb, .int 0]))] sz) [(ax, .inr (0, [.ref xt, .ref xp, .ref xs, .ref xl, .ref xb, .ref xk, .ref xm, .ref xq, .ref xg, .ref xf, .ref xe, .int 49])), (xt, .inr (1, [.ref tb, .int 0]))]) (va_A [(ax, .inr (0, [.ref xt, .ref xp, .ref xs, .ref xl, .ref xb, .ref xk, .ref xm, .ref xq, .ref xg, .ref xf, .ref xe, .int 49])), (xt, .inr (1, [.ref tb, .int 0]))] sz)) 0 0 (va_A [(ax, .inr (0, [.ref xt, .ref xp, .ref xs, .ref xl, .ref xb, .ref xk, .ref xm, .ref xq, .ref xg, .ref xf, .ref xe, .int 49])), (xt, .inr (1, [.ref tb, .int 0]))] sz) := by
  refine Met.ofW (cc := cX11_clearText) (maxL := 2) (ret := (some .int)) (by decide) rfl ?_
  intro p e s m args below meth c s₁ B hml hv
  obtain ⟨rfl, hsz, hP, hK, hD0, hT, hE⟩ := hv
  have hx := B.exec
  have hb := B.bytes
  have hr := B.returns
  have hw := wz_hw (atoms_spec (ws := wz yX11_clearText cX11_clearText 2 (some .int)) B.pre)
  have hown : s.vm.findClass "KindredBooks" = some m.cls := findClass_of_methodNamed B.named
  have hlocks := B.notSynchronized
  have hn := hT.1.use (args := ([.ref ax] : List Value).toArray)
  subst hsz
  have hD := hD0.self (sz := s.heap.size)
  generalize hAe : va_A [(ax, .inr (0, [.ref xt, .ref xp, .ref xs, .ref xl, .ref xb, .ref xk, .ref xm, .ref xq, .ref xg, .ref xf, .ref xe, .int 49])), (xt, .inr (1, [.ref tb, .int 0]))] s.heap.size = A at hD hE ⊢
  have hA : ∀ q : Nat, s.heap.size ≤ q → A q := fun q h => by rw [← hAe]; exact Or.inr h
  have hS : va_S A s.heap s.heap [] := va_S.rf
  replace hP : va_P D zcl [(ax, .inr (0, [.ref xt, .ref xp, .ref xs, .ref xl, .ref xb, .ref xk, .ref xm, .ref xq, .ref xg, .ref xf, .ref xe, .int 49])), (xt, .inr (1, [.ref tb, .int 0]))] s.heap := hP
  have hl := lv_entry ([.ref ax]) (n := 2) (Nat.le_of_ble_eq_true rfl)
  rw [lg_entry_eq]
  generalize (lg_sl ([.ref ax]) ++ List.replicate (2 - (lg_sl ([.ref ax])).length) Slot.unset).toArray = ls at hl ⊢
  replace hl : lv_has ls 2 [(0, .ref ax)] := hl
  refine lv_aload_n hx hb dX11_clearText_0 rfl (lv_at hl 0 rfl) ?_
  refine va_get (D := D) (ci := 0) (v := .ref xt) (C := "KindredBooks") (T := T_zk0) (N := 12) hx hb hw in_zk0 hown hK hP 0 rfl rfl 0 (by decide) (hw _ mw_346) (fun _ h9 => h9) rfl dX11_clearText_1 ?_
  refine va_getN (D := D) (ci := 1) (v := .int 0) (C := "KindredBooks$Text") (T := T_zk1) (N := 2) hx hb hw in_zk1 hown hK hP 1 rfl rfl 1 (by decide) (hn _ mn_59) (fun _ h9 => h9) rfl dX11_clearText_4 ?_
  refine lv_istore_n (lv' := [(1, .int 0), (0, .ref ax)]) hx hb dX11_clearText_7 rfl hl (by decide) rfl (fun ls hl => ?_)
  refine lv_aload_n hx hb dX11_clearText_8 rfl (lv_at hl 1 rfl) ?_
  refine va_get (D := D) (ci := 0) (v := .ref xt) (C := "KindredBooks") (T := T_zk0) (N := 12) hx hb hw in_zk0 hown hK hP 0 rfl rfl 0 (by decide) (hw _ mw_346) (fun _ h9 => h9) rfl dX11_clearText_9 ?_
  have hPc := hP.sub (ws' := [(xt, .inr (1, [.ref tb, .int 0]))]) [1] rfl
  have hDc := hD.sub (ws' := [(xt, .inr (1, [.ref tb, .int 0]))]) [1] (by decide) rfl
  have hFc := va_free (wc := [(xt, .inr (1, [.ref tb, .int 0]))]) hD hS hA [1] rfl
  refine va_callv (va_runV (As := []) (rest := []) ⟨hx, hb, hml, hown, hw⟩ (c_Text_empty l D dA dZ _ xt tb 0) (z_cwV 0 hw mw_387 mw_388 mw_389 mw_2 mw_390 rfl rfl (by decide +kernel) ⟨Nat.le_of_ble_eq_true rfl, Nat.le_of_ble_eq_true rfl⟩) (zPreV hPc hK hDc hT hE hS hFc (va_recv hK hP (ci := 1) (q0 := 1) rfl rfl)) rfl rfl hl.1 rfl (lv_room (Nat.le_of_ble_eq_true rfl)) dX11_clearText_12 ⟨Nat.le_of_ble_eq_true rfl, Nat.le_of_ble_eq_true rfl⟩) hS (fun q _ h => hFc q h) hFc (fun u t H1 locs ht hvm hpo hB hz1 hk1 hS => ?_)
  obtain ⟨hP1, hD1⟩ := hB
  rw [ht] at hP1
  obtain ⟨hP, hD⟩ := va_join (wr := [(ax, .inr (0, [.ref xt, .ref xp, .ref xs, .ref xl, .ref xb, .ref xk, .ref xm, .ref xq, .ref xg, .ref xf, .ref xe, .int 49]))]) (w1 := [(xt, .inr (1, [.ref tb, .int 0]))]) hP hD [1] [0] rfl rfl (by decide) (by decide) hk1 hFc hP1 hD1
  generalize H1 = H at hP hS ⊢
  have hP : va_P D zcl [(ax, .inr (0, [.ref xt, .ref xp, .ref xs, .ref xl, .ref xb, .ref xk, .ref xm, .ref xq, .ref xg, .ref xf, .ref xe, .int 49])), (xt, .inr (1, [.ref tb, .int 0]))] H := hP
  have hD : va_D A [(ax, .inr (0, [.ref xt, .ref xp, .ref xs, .ref xl, .ref xb, .ref xk, .ref xm, .ref xq, .ref xg, .ref xf, .ref xe, .int 49])), (xt, .inr (1, [.ref tb, .int 0]))] := hD
  refine lv_iload_n hx hb dX11_clearText_15 rfl (lv_at hl 0 rfl) ?_
  have hP9 := hP.sub (ws' := [(ax, .inr (0, [.ref xt, .ref xp, .ref xs, .ref xl, .ref xb, .ref xk, .ref xm, .ref xq, .ref xg, .ref xf, .ref xe, .int 49])), (xt, .inr (1, [.ref tb, .int 0]))]) [0, 1] rfl
  have hD9 := hD.sub (ws' := [(ax, .inr (0, [.ref xt, .ref xp, .ref xs, .ref xl, .ref xb, .ref xk, .ref xm, .ref xq, .ref xg, .ref xf, .ref xe, .int 49])), (xt, .inr (1, [.ref tb, .int 0]))]) [0, 1] (by decide) rfl
  exact W.iret (v := 0) hx hb hr (fun t ht hW => ⟨⟨0, (), rfl, rfl, by rw [ht]; exact hP9, hD9⟩, hS.F ht⟩) hS.2.2 dX11_clearText_16
set_option maxHeartbeats 4000000 in
set_option maxRecDepth 100000 in
/-- changes on a fresh object: ok -/
theorem c_changes_ok (l : Launch) (D : va_G) (dA : Nat → ClassId) (dZ : Nat → Nat) (sz : Nat) (ax : Nat) (xt : Nat) (xp : Nat) (xs : Nat) (xl : Nat) (xb : Nat) (xk : Nat) (xm : Nat) (xq : Nat) (xg : Nat) (xf : Nat) (xe : Nat) (bl : Nat) (no : Nat) (ro : Nat) : Met l yX11_changes (wz yX11_changes cX11_changes 1 (some .int)) ({ frames := 14, cells := 0, slots := 0, locals := 400 } : Room) (va_Pc [.ref ax] (zP D dA dZ [(ax, .inr (0, [.ref xt, .ref xp, .ref xs, .ref xl, .ref xb, .ref xk, .ref xm, .ref xq, .ref xg, .ref xf, .ref xe, .int 49])), (xl, .inr (2, [.ref bl, .ref no, .ref ro, .int 0]))] sz)) (va_Qi (fun (r : Int32) (_ : Unit) => r = 0) (fun _ => zB D (va_A [(ax, .inr (0, [.ref xt, .ref xp, .ref xs, .ref xl, .ref xb, .ref xk, .ref xm, .ref xq, .ref xg, .ref xf, .ref xe, .int 49])), (xl, .inr (2, [.ref bl, .ref no, .ref ro, .int 0]))] sz) [(ax, .inr (0, [.ref xt, .ref xp, .ref xs, .ref xl, .ref xb, .ref xk, .ref xm, .ref xq, .ref xg, .ref xf, .ref xe, .int 49])), (xl, .inr (2, [.ref bl, .ref no, .ref ro, .int 0]))]) (va_A [(ax, .inr (0, [.ref xt, .ref xp, .ref xs, .ref xl, .ref xb, .ref xk, .ref xm, .ref xq, .ref xg, .ref xf, .ref xe, .int 49])), (xl, .inr (2, [.ref bl, .ref no, .ref ro, .int 0]))] sz)) 0 0 (va_A [(ax, .inr (0, [.ref xt, .ref xp, .ref xs, .ref xl, .ref xb, .ref xk, .ref xm, .ref xq, .ref xg, .ref xf, .ref xe, .int 49])), (xl, .inr (2, [.ref bl, .ref no, .ref ro, .int 0]))] sz) := by
  refine Met.ofW (cc := cX11_changes) (maxL := 1) (ret := (some .int)) (by decide) rfl ?_
  intro p e s m args below meth c s₁ B hml hv
  obtain ⟨rfl, hsz, hP, hK, hD0, hT, hE⟩ := hv
  have hx := B.exec
  have hb := B.bytes
  have hr := B.returns
  have hw := wz_hw (atoms_spec (ws := wz yX11_changes cX11_changes 1 (some .int)) B.pre)
  have hown : s.vm.findClass "KindredBooks" = some m.cls := findClass_of_methodNamed B.named
  have hlocks := B.notSynchronized
  have hn := hT.1.use (args := ([.ref ax] : List Value).toArray)
  subst hsz
  have hD := hD0.self (sz := s.heap.size)
  generalize hAe : va_A [(ax, .inr (0, [.ref xt, .ref xp, .ref xs, .ref xl, .ref xb, .ref xk, .ref xm, .ref xq, .ref xg, .ref xf, .ref xe, .int 49])), (xl, .inr (2, [.ref bl, .ref no, .ref ro, .int 0]))] s.heap.size = A at hD hE ⊢
  have hA : ∀ q : Nat, s.heap.size ≤ q → A q := fun q h => by rw [← hAe]; exact Or.inr h
  have hS : va_S A s.heap s.heap [] := va_S.rf
  replace hP : va_P D zcl [(ax, .inr (0, [.ref xt, .ref xp, .ref xs, .ref xl, .ref xb, .ref xk, .ref xm, .ref xq, .ref xg, .ref xf, .ref xe, .int 49])), (xl, .inr (2, [.ref bl, .ref no, .ref ro, .int 0]))] s.heap := hP
  have hl := lv_entry ([.ref ax]) (n := 1) (Nat.le_of_ble_eq_true rfl)
  rw [lg_entry_eq]
  generalize (lg_sl ([.ref ax]) ++ List.replicate (1 - (lg_sl ([.ref ax])).length) Slot.unset).toArray = ls at hl ⊢
  replace hl : lv_has ls 1 [(0, .ref ax)] := hl
  refine lv_aload_n hx hb dX11_changes_0 rfl (lv_at hl 0 rfl) ?_
  refine va_get (D := D) (ci := 0) (v := .ref xl) (C := "KindredBooks") (T := T_zk0) (N := 12) hx hb hw in_zk0 hown hK hP 0 rfl rfl 3 (by decide) (hw _ mw_349) (fun _ h9 => h9) rfl dX11_changes_1 ?_
  refine va_getN (D := D) (ci := 2) (v := .int 0) (C := "KindredBooks$Ledger") (T := T_zk2) (N := 4) hx hb hw in_zk2 hown hK hP 1 rfl rfl 3 (by decide) (hn _ mn_170) (fun _ h9 => h9) rfl dX11_changes_4 ?_
  have hP9 := hP.sub (ws' := [(ax, .inr (0, [.ref xt, .ref xp, .ref xs, .ref xl, .ref xb, .ref xk, .ref xm, .ref xq, .ref xg, .ref xf, .ref xe, .int 49])), (xl, .inr (2, [.ref bl, .ref no, .ref ro, .int 0]))]) [0, 1] rfl
  have hD9 := hD.sub (ws' := [(ax, .inr (0, [.ref xt, .ref xp, .ref xs, .ref xl, .ref xb, .ref xk, .ref xm, .ref xq, .ref xg, .ref xf, .ref xe, .int 49])), (xl, .inr (2, [.ref bl, .ref no, .ref ro, .int 0]))]) [0, 1] (by decide) rfl
  exact W.iret (v := 0) hx hb hr (fun t ht hW => ⟨⟨0, (), rfl, rfl, by rw [ht]; exact hP9, hD9⟩, hS.F ht⟩) hS.2.2 dX11_changes_7
set_option maxHeartbeats 4000000 in
set_option maxRecDepth 100000 in
/-- entry: no such book -/
theorem c_entry_bad (l : Launch) (D : va_G) (dA : Nat → ClassId) (dZ : Nat → Nat) (sz : Nat) (hfl : l.stackTraces = false) (ax : Nat) (xt : Nat) (xp : Nat) (xs : Nat) (xl : Nat) (xb : Nat) (xk : Nat) (xm : Nat) (xq : Nat) (xg : Nat) (xf : Nat) (xe : Nat) (b : Int32) (hz : zbad b) : vx_Met l yX11_entry (wz yX11_entry cX11_entry 3 (some .int)) ({ frames := 9, cells := 1, slots := 6, locals := 200 } : Room) (va_Pc [.ref ax, .int b] (zP D dA dZ [(ax, .inr (0, [.ref xt, .ref xp, .ref xs, .ref xl, .ref xb, .ref xk, .ref xm, .ref xq, .ref xg, .ref xf, .ref xe, .int 49]))] sz)) zNo (zX "java/lang/IndexOutOfBoundsException" (va_A [(ax, .inr (0, [.ref xt, .ref xp, .ref xs, .ref xl, .ref xb, .ref xk, .ref xm, .ref xq, .ref xg, .ref xf, .ref xe, .int 49]))] sz)) 1 6 (va_A [(ax, .inr (0, [.ref xt, .ref xp, .ref xs, .ref xl, .ref xb, .ref xk, .ref xm, .ref xq, .ref xg, .ref xf, .ref xe, .int 49]))] sz) := by
  refine vx_ofW (cc := cX11_entry) (maxL := 3) (ret := (some .int)) (by decide) rfl ?_
  intro p e s m args below meth c s₁ B hml hno hv
  obtain ⟨rfl, hsz, hP, hK, hD0, hT, hE⟩ := hv
  have hx := B.exec
  have hb := B.bytes
  have hr := B.returns
  have hw := wz_hw (atoms_spec (ws := wz yX11_entry cX11_entry 3 (some .int)) B.pre)
  have hown : s.vm.findClass "KindredBooks" = some m.cls := findClass_of_methodNamed B.named
  have hlocks := B.notSynchronized
  have hn := hT.1.use (args := ([.ref ax, .int b] : List Value).toArray)
  subst hsz
  have hD := hD0.self (sz := s.heap.size)
  generalize hAe : va_A [(ax, .inr (0, [.ref xt, .ref xp, .ref xs, .ref xl, .ref xb, .ref xk, .ref xm, .ref xq, .ref xg, .ref xf, .ref xe, .int 49]))] s.heap.size = A at hD hE ⊢
  have hA : ∀ q : Nat, s.heap.size ≤ q → A q := fun q h => by rw [← hAe]; exact Or.inr h
  have hS : va_S A s.heap s.heap [] := va_S.rf
  replace hP : va_P D zcl [(ax, .inr (0, [.ref xt, .ref xp, .ref xs, .ref xl, .ref xb, .ref xk, .ref xm, .ref xq, .ref xg, .ref xf, .ref xe, .int 49]))] s.heap := hP
  have hl := lv_entry ([.ref ax, .int b]) (n := 3) (Nat.le_of_ble_eq_true rfl)
  rw [lg_entry_eq]
  generalize (lg_sl ([.ref ax, .int b]) ++ List.replicate (3 - (lg_sl ([.ref ax, .int b])).length) Slot.unset).toArray = ls at hl ⊢
  replace hl : lv_has ls 3 [(0, .ref ax), (1, .int b)] := hl
  refine lv_aload_n hx hb dX11_entry_0 rfl (lv_at hl 0 rfl) ?_
  refine lv_iload_n hx hb dX11_entry_1 rfl (lv_at hl 1 rfl) ?_
  have hPc := hP.sub (ws' := []) [] rfl
  have hDc := hD.sub (ws' := []) [] (by decide) rfl
  have hFc := va_free (wc := []) hD hS hA [] rfl
  refine zx_call (E0 := "java/lang/IndexOutOfBoundsException") (vx_runV (As := [.int b]) (rest := []) ⟨hx, hb, hml, hown, hw⟩ (c_bookOf_no l D dA dZ _ hfl ax b hz) (z_cwV 1 hw mw_603 mw_605 ms_3 mw_1 mw_606 rfl rfl (by decide +kernel) ⟨Nat.le_of_ble_eq_true rfl, Nat.le_of_ble_eq_true rfl⟩) (zPreV hPc hK hDc hT hE hS hFc (va_recv hK hP (ci := 0) (q0 := 0) rfl rfl)) rfl rfl hl.1 rfl (lv_room (Nat.le_of_ble_eq_true rfl)) dX11_entry_2 ⟨Nat.le_of_ble_eq_true rfl, Nat.le_of_ble_eq_true rfl⟩) hS (fun q _ h => hFc q h) hFc (fun ce q9 H1 locs hz1 hk1 hS hce hcv hcl => ?_)
  exact vx_out (fun x hx => (hno x hx).elim) hlocks hce hcv hcl (fun t ht ha => zX_at hS ht) hS.2.2 (Nat.le_of_ble_eq_true rfl) (Nat.le_of_ble_eq_true rfl)
set_option maxHeartbeats 4000000 in
set_option maxRecDepth 100000 in
/-- undo: no such book -/
theorem c_undo_bad (l : Launch) (D : va_G) (dA : Nat → ClassId) (dZ : Nat → Nat) (sz : Nat) (hfl : l.stackTraces = false) (ax : Nat) (xt : Nat) (xp : Nat) (xs : Nat) (xl : Nat) (xb : Nat) (xk : Nat) (xm : Nat) (xq : Nat) (xg : Nat) (xf : Nat) (xe : Nat) (b : Int32) (hz : zbad b) : vx_Met l yX11_undo (wz yX11_undo cX11_undo 4 (some .int)) ({ frames := 9, cells := 1, slots := 6, locals := 200 } : Room) (va_Pc [.ref ax, .int b] (zP D dA dZ [(ax, .inr (0, [.ref xt, .ref xp, .ref xs, .ref xl, .ref xb, .ref xk, .ref xm, .ref xq, .ref xg, .ref xf, .ref xe, .int 49]))] sz)) zNo (zX "java/lang/IndexOutOfBoundsException" (va_A [(ax, .inr (0, [.ref xt, .ref xp, .ref xs, .ref xl, .ref xb, .ref xk, .ref xm, .ref xq, .ref xg, .ref xf, .ref xe, .int 49]))] sz)) 1 6 (va_A [(ax, .inr (0, [.ref xt, .ref xp, .ref xs, .ref xl, .ref xb, .ref xk, .ref xm, .ref xq, .ref xg, .ref xf, .ref xe, .int 49]))] sz) := by
  refine vx_ofW (cc := cX11_undo) (maxL := 4) (ret := (some .int)) (by decide) rfl ?_
  intro p e s m args below meth c s₁ B hml hno hv
  obtain ⟨rfl, hsz, hP, hK, hD0, hT, hE⟩ := hv
  have hx := B.exec
  have hb := B.bytes
  have hr := B.returns
  have hw := wz_hw (atoms_spec (ws := wz yX11_undo cX11_undo 4 (some .int)) B.pre)
  have hown : s.vm.findClass "KindredBooks" = some m.cls := findClass_of_methodNamed B.named
  have hlocks := B.notSynchronized
  have hn := hT.1.use (args := ([.ref ax, .int b] : List Value).toArray)
  subst hsz
  have hD := hD0.self (sz := s.heap.size)
  generalize hAe : va_A [(ax, .inr (0, [.ref xt, .ref xp, .ref xs, .ref xl, .ref xb, .ref xk, .ref xm, .ref xq, .ref xg, .ref xf, .ref xe, .int 49]))] s.heap.size = A at hD hE ⊢
  have hA : ∀ q : Nat, s.heap.size ≤ q → A q := fun q h => by rw [← hAe]; exact Or.inr h
  have hS : va_S A s.heap s.heap [] := va_S.rf
  replace hP : va_P D zcl [(ax, .inr (0, [.ref xt, .ref xp, .ref xs, .ref xl, .ref xb, .ref xk, .ref xm, .ref xq, .ref xg, .ref xf, .ref xe, .int 49]))] s.heap := hP
  have hl := lv_entry ([.ref ax, .int b]) (n := 4) (Nat.le_of_ble_eq_true rfl)
  rw [lg_entry_eq]
  generalize (lg_sl ([.ref ax, .int b]) ++ List.replicate (4 - (lg_sl ([.ref ax, .int b])).length) Slot.unset).toArray = ls at hl ⊢
  replace hl : lv_has ls 4 [(0, .ref ax), (1, .int b)] := hl
  refine lv_aload_n hx hb dX11_undo_0 rfl (lv_at hl 0 rfl) ?_
  refine lv_iload_n hx hb dX11_undo_1 rfl (lv_at hl 1 rfl) ?_
  have hPc := hP.sub (ws' := []) [] rfl
  have hDc := hD.sub (ws' := []) [] (by decide) rfl
  have hFc := va_free (wc := []) hD hS hA [] rfl
  refine zx_call (E0 := "java/lang/IndexOutOfBoundsException") (vx_runV (As := [.int b]) (rest := []) ⟨hx, hb, hml, hown, hw⟩ (c_bookOf_no l D dA dZ _ hfl ax b hz) (z_cwV 1 hw mw_603 mw_605 ms_3 mw_1 mw_606 rfl rfl (by decide +kernel) ⟨Nat.le_of_ble_eq_true rfl, Nat.le_of_ble_eq_true rfl⟩) (zPreV hPc hK hDc hT hE hS hFc (va_recv hK hP (ci := 0) (q0 := 0) rfl rfl)) rfl rfl hl.1 rfl (lv_room (Nat.le_of_ble_eq_true rfl)) dX11_undo_2 ⟨Nat.le_of_ble_eq_true rfl, Nat.le_of_ble_eq_true rfl⟩) hS (fun q _ h => hFc q h) hFc (fun ce q9 H1 locs hz1 hk1 hS hce hcv hcl => ?_)
  exact vx_out (fun x hx => (hno x hx).elim) hlocks hce hcv hcl (fun t ht ha => zX_at hS ht) hS.2.2 (Nat.le_of_ble_eq_true rfl) (Nat.le_of_ble_eq_true rfl)
set_option maxHeartbeats 4000000 in
set_option maxRecDepth 100000 in
/-- known: no such book -/
theorem c_known_bad (l : Launch) (D : va_G) (dA : Nat → ClassId) (dZ : Nat → Nat) (sz : Nat) (hfl : l.stackTraces = false) (ax : Nat) (xt : Nat) (xp : Nat) (xs : Nat) (xl : Nat) (xb : Nat) (xk : Nat) (xm : Nat) (xq : Nat) (xg : Nat) (xf : Nat) (xe : Nat) (b : Int32) (hz : zbad b) : vx_Met l yX11_known (wz yX11_known cX11_known 2 (some .int)) ({ frames := 9, cells := 1, slots := 6, locals := 200 } : Room) (va_Pc [.ref ax, .int b] (zP D dA dZ [(ax, .inr (0, [.ref xt, .ref xp, .ref xs, .ref xl, .ref xb, .ref xk, .ref xm, .ref xq, .ref xg, .ref xf, .ref xe, .int 49]))] sz)) zNo (zX "java/lang/IndexOutOfBoundsException" (va_A [(ax, .inr (0, [.ref xt, .ref xp, .ref xs, .ref xl, .ref xb, .ref xk, .ref xm, .ref xq, .ref xg, .ref xf, .ref xe, .int 49]))] sz)) 1 6 (va_A [(ax, .inr (0, [.ref xt, .ref xp, .ref xs, .ref xl, .ref xb, .ref xk, .ref xm, .ref xq, .ref xg, .ref xf, .ref xe, .int 49]))] sz) := by
  refine vx_ofW (cc := cX11_known) (maxL := 2) (ret := (some .int)) (by decide) rfl ?_
  intro p e s m args below meth c s₁ B hml hno hv
  obtain ⟨rfl, hsz, hP, hK, hD0, hT, hE⟩ := hv
  have hx := B.exec
  have hb := B.bytes
  have hr := B.returns
  have hw := wz_hw (atoms_spec (ws := wz yX11_known cX11_known 2 (some .int)) B.pre)
  have hown : s.vm.findClass "KindredBooks" = some m.cls := findClass_of_methodNamed B.named
  have hlocks := B.notSynchronized
  have hn := hT.1.use (args := ([.ref ax, .int b] : List Value).toArray)
  subst hsz
  have hD := hD0.self (sz := s.heap.size)
  generalize hAe : va_A [(ax, .inr (0, [.ref xt, .ref xp, .ref xs, .ref xl, .ref xb, .ref xk, .ref xm, .ref xq, .ref xg, .ref xf, .ref xe, .int 49]))] s.heap.size = A at hD hE ⊢
  have hA : ∀ q : Nat, s.heap.size ≤ q → A q := fun q h => by rw [← hAe]; exact Or.inr h
  have hS : va_S A s.heap s.heap [] := va_S.rf
  replace hP : va_P D zcl [(ax, .inr (0, [.ref xt, .ref xp, .ref xs, .ref xl, .ref xb, .ref xk, .ref xm, .ref xq, .ref xg, .ref xf, .ref xe, .int 49]))] s.heap := hP
  have hl := lv_entry ([.ref ax, .int b]) (n := 2) (Nat.le_of_ble_eq_true rfl)
  rw [lg_entry_eq]
  generalize (lg_sl ([.ref ax, .int b]) ++ List.replicate (2 - (lg_sl ([.ref ax, .int b])).length) Slot.unset).toArray = ls at hl ⊢
  replace hl : lv_has ls 2 [(0, .ref ax), (1, .int b)] := hl
  refine lv_aload_n hx hb dX11_known_0 rfl (lv_at hl 0 rfl) ?_
  refine lv_iload_n hx hb dX11_known_1 rfl (lv_at hl 1 rfl) ?_
  have hPc := hP.sub (ws' := []) [] rfl
  have hDc := hD.sub (ws' := []) [] (by decide) rfl
  have hFc := va_free (wc := []) hD hS hA [] rfl
  refine zx_call (E0 := "java/lang/IndexOutOfBoundsException") (vx_runV (As := [.int b]) (rest := []) ⟨hx, hb, hml, hown, hw⟩ (c_bookOf_no l D dA dZ _ hfl ax b hz) (z_cwV 1 hw mw_603 mw_605 ms_3 mw_1 mw_606 rfl rfl (by decide +kernel) ⟨Nat.le_of_ble_eq_true rfl, Nat.le_of_ble_eq_true rfl⟩) (zPreV hPc hK hDc hT hE hS hFc (va_recv hK hP (ci := 0) (q0 := 0) rfl rfl)) rfl rfl hl.1 rfl (lv_room (Nat.le_of_ble_eq_true rfl)) dX11_known_2 ⟨Nat.le_of_ble_eq_true rfl, Nat.le_of_ble_eq_true rfl⟩) hS (fun q _ h => hFc q h) hFc (fun ce q9 H1 locs hz1 hk1 hS hce hcv hcl => ?_)
  exact vx_out (fun x hx => (hno x hx).elim) hlocks hce hcv hcl (fun t ht ha => zX_at hS ht) hS.2.2 (Nat.le_of_ble_eq_true rfl) (Nat.le_of_ble_eq_true rfl)
set_option maxHeartbeats 4000000 in
set_option maxRecDepth 100000 in
/-- meanLines: no such book -/
theorem c_meanLines_bad (l : Launch) (D : va_G) (dA : Nat → ClassId) (dZ : Nat → Nat) (sz : Nat) (hfl : l.stackTraces = false) (ax : Nat) (xt : Nat) (xp : Nat) (xs : Nat) (xl : Nat) (xb : Nat) (xk : Nat) (xm : Nat) (xq : Nat) (xg : Nat) (xf : Nat) (xe : Nat) (b : Int32) (hz : zbad b) : vx_Met l yX11_meanLines (wz yX11_meanLines cX11_meanLines 4 (some .double)) ({ frames := 9, cells := 1, slots := 6, locals := 200 } : Room) (va_Pc [.ref ax, .int b] (zP D dA dZ [(ax, .inr (0, [.ref xt, .ref xp, .ref xs, .ref xl, .ref xb, .ref xk, .ref xm, .ref xq, .ref xg, .ref xf, .ref xe, .int 49]))] sz)) zNo (zX "java/lang/IndexOutOfBoundsException" (va_A [(ax, .inr (0, [.ref xt, .ref xp, .ref xs, .ref xl, .ref xb, .ref xk, .ref xm, .ref xq, .ref xg, .ref xf, .ref xe, .int 49]))] sz)) 1 6 (va_A [(ax, .inr (0, [.ref xt, .ref xp, .ref xs, .ref xl, .ref xb, .ref xk, .ref xm, .ref xq, .ref xg, .ref xf, .ref xe, .int 49]))] sz) := by
  refine vx_ofW (cc := cX11_meanLines) (maxL := 4) (ret := (some .double)) (by decide) rfl ?_
  intro p e s m args below meth c s₁ B hml hno hv
  obtain ⟨rfl, hsz, hP, hK, hD0, hT, hE⟩ := hv
  have hx := B.exec
  have hb := B.bytes
  have hr := B.returns
  have hw := wz_hw (atoms_spec (ws := wz yX11_meanLines cX11_meanLines 4 (some .double)) B.pre)
  have hown : s.vm.findClass "KindredBooks" = some m.cls := findClass_of_methodNamed B.named
  have hlocks := B.notSynchronized
  have hn := hT.1.use (args := ([.ref ax, .int b] : List Value).toArray)
  subst hsz
  have hD := hD0.self (sz := s.heap.size)
  generalize hAe : va_A [(ax, .inr (0, [.ref xt, .ref xp, .ref xs, .ref xl, .ref xb, .ref xk, .ref xm, .ref xq, .ref xg, .ref xf, .ref xe, .int 49]))] s.heap.size = A at hD hE ⊢
  have hA : ∀ q : Nat, s.heap.size ≤ q → A q := fun q h => by rw [← hAe]; exact Or.inr h
  have hS : va_S A s.heap s.heap [] := va_S.rf
  replace hP : va_P D zcl [(ax, .inr (0, [.ref xt, .ref xp, .ref xs, .ref xl, .ref xb, .ref xk, .ref xm, .ref xq, .ref xg, .ref xf, .ref xe, .int 49]))] s.heap := hP
  have hl := lv_entry ([.ref ax, .int b]) (n := 4) (Nat.le_of_ble_eq_true rfl)
  rw [lg_entry_eq]
  generalize (lg_sl ([.ref ax, .int b]) ++ List.replicate (4 - (lg_sl ([.ref ax, .int b])).length) Slot.unset).toArray = ls at hl ⊢
  replace hl : lv_has ls 4 [(0, .ref ax), (1, .int b)] := hl
  refine lv_aload_n hx hb dX11_meanLines_0 rfl (lv_at hl 0 rfl) ?_
  refine lv_iload_n hx hb dX11_meanLines_1 rfl (lv_at hl 1 rfl) ?_
  have hPc := hP.sub (ws' := []) [] rfl
  have hDc := hD.sub (ws' := []) [] (by decide) rfl
  have hFc := va_free (wc := []) hD hS hA [] rfl
  refine zx_call (E0 := "java/lang/IndexOutOfBoundsException") (vx_runV (As := [.int b]) (rest := []) ⟨hx, hb, hml, hown, hw⟩ (c_bookOf_no l D dA dZ _ hfl ax b hz) (z_cwV 1 hw mw_603 mw_605 ms_3 mw_1 mw_606 rfl rfl (by decide +kernel) ⟨Nat.le_of_ble_eq_true rfl, Nat.le_of_ble_eq_true rfl⟩) (zPreV hPc hK hDc hT hE hS hFc (va_recv hK hP (ci := 0) (q0 := 0) rfl rfl)) rfl rfl hl.1 rfl (lv_room (Nat.le_of_ble_eq_true rfl)) dX11_meanLines_2 ⟨Nat.le_of_ble_eq_true rfl, Nat.le_of_ble_eq_true rfl⟩) hS (fun q _ h => hFc q h) hFc (fun ce q9 H1 locs hz1 hk1 hS hce hcv hcl => ?_)
  exact vx_out (fun x hx => (hno x hx).elim) hlocks hce hcv hcl (fun t ht ha => zX_at hS ht) hS.2.2 (Nat.le_of_ble_eq_true rfl) (Nat.le_of_ble_eq_true rfl)
set_option maxHeartbeats 4000000 in
set_option maxRecDepth 100000 in
/-- countShare: no such book -/
theorem c_countShare_bad (l : Launch) (D : va_G) (dA : Nat → ClassId) (dZ : Nat → Nat) (sz : Nat) (hfl : l.stackTraces = false) (ax : Nat) (xt : Nat) (xp : Nat) (xs : Nat) (xl : Nat) (xb : Nat) (xk : Nat) (xm : Nat) (xq : Nat) (xg : Nat) (xf : Nat) (xe : Nat) (b : Int32) (hz : zbad b) : vx_Met l yX11_countShare (wz yX11_countShare cX11_countShare 3 (some .float)) ({ frames := 9, cells := 1, slots := 6, locals := 200 } : Room) (va_Pc [.ref ax, .int b] (zP D dA dZ [(ax, .inr (0, [.ref xt, .ref xp, .ref xs, .ref xl, .ref xb, .ref xk, .ref xm, .ref xq, .ref xg, .ref xf, .ref xe, .int 49]))] sz)) zNo (zX "java/lang/IndexOutOfBoundsException" (va_A [(ax, .inr (0, [.ref xt, .ref xp, .ref xs, .ref xl, .ref xb, .ref xk, .ref xm, .ref xq, .ref xg, .ref xf, .ref xe, .int 49]))] sz)) 1 6 (va_A [(ax, .inr (0, [.ref xt, .ref xp, .ref xs, .ref xl, .ref xb, .ref xk, .ref xm, .ref xq, .ref xg, .ref xf, .ref xe, .int 49]))] sz) := by
  refine vx_ofW (cc := cX11_countShare) (maxL := 3) (ret := (some .float)) (by decide) rfl ?_
  intro p e s m args below meth c s₁ B hml hno hv
  obtain ⟨rfl, hsz, hP, hK, hD0, hT, hE⟩ := hv
  have hx := B.exec
  have hb := B.bytes
  have hr := B.returns
  have hw := wz_hw (atoms_spec (ws := wz yX11_countShare cX11_countShare 3 (some .float)) B.pre)
  have hown : s.vm.findClass "KindredBooks" = some m.cls := findClass_of_methodNamed B.named
  have hlocks := B.notSynchronized
  have hn := hT.1.use (args := ([.ref ax, .int b] : List Value).toArray)
  subst hsz
  have hD := hD0.self (sz := s.heap.size)
  generalize hAe : va_A [(ax, .inr (0, [.ref xt, .ref xp, .ref xs, .ref xl, .ref xb, .ref xk, .ref xm, .ref xq, .ref xg, .ref xf, .ref xe, .int 49]))] s.heap.size = A at hD hE ⊢
  have hA : ∀ q : Nat, s.heap.size ≤ q → A q := fun q h => by rw [← hAe]; exact Or.inr h
  have hS : va_S A s.heap s.heap [] := va_S.rf
  replace hP : va_P D zcl [(ax, .inr (0, [.ref xt, .ref xp, .ref xs, .ref xl, .ref xb, .ref xk, .ref xm, .ref xq, .ref xg, .ref xf, .ref xe, .int 49]))] s.heap := hP
  have hl := lv_entry ([.ref ax, .int b]) (n := 3) (Nat.le_of_ble_eq_true rfl)
  rw [lg_entry_eq]
  generalize (lg_sl ([.ref ax, .int b]) ++ List.replicate (3 - (lg_sl ([.ref ax, .int b])).length) Slot.unset).toArray = ls at hl ⊢
  replace hl : lv_has ls 3 [(0, .ref ax), (1, .int b)] := hl
  refine lv_aload_n hx hb dX11_countShare_0 rfl (lv_at hl 0 rfl) ?_
  refine lv_iload_n hx hb dX11_countShare_1 rfl (lv_at hl 1 rfl) ?_
  have hPc := hP.sub (ws' := []) [] rfl
  have hDc := hD.sub (ws' := []) [] (by decide) rfl
  have hFc := va_free (wc := []) hD hS hA [] rfl
  refine zx_call (E0 := "java/lang/IndexOutOfBoundsException") (vx_runV (As := [.int b]) (rest := []) ⟨hx, hb, hml, hown, hw⟩ (c_bookOf_no l D dA dZ _ hfl ax b hz) (z_cwV 1 hw mw_603 mw_605 ms_3 mw_1 mw_606 rfl rfl (by decide +kernel) ⟨Nat.le_of_ble_eq_true rfl, Nat.le_of_ble_eq_true rfl⟩) (zPreV hPc hK hDc hT hE hS hFc (va_recv hK hP (ci := 0) (q0 := 0) rfl rfl)) rfl rfl hl.1 rfl (lv_room (Nat.le_of_ble_eq_true rfl)) dX11_countShare_2 ⟨Nat.le_of_ble_eq_true rfl, Nat.le_of_ble_eq_true rfl⟩) hS (fun q _ h => hFc q h) hFc (fun ce q9 H1 locs hz1 hk1 hS hce hcv hcl => ?_)
  exact vx_out (fun x hx => (hno x hx).elim) hlocks hce hcv hcl (fun t ht ha => zX_at hS ht) hS.2.2 (Nat.le_of_ble_eq_true rfl) (Nat.le_of_ble_eq_true rfl)
set_option maxHeartbeats 4000000 in
set_option maxRecDepth 100000 in
/-- readIn: no such book -/
theorem c_readIn_bad (l : Launch) (D : va_G) (dA : Nat → ClassId) (dZ : Nat → Nat) (sz : Nat) (hfl : l.stackTraces = false) (ax : Nat) (xt : Nat) (xp : Nat) (xs : Nat) (xl : Nat) (xb : Nat) (xk : Nat) (xm : Nat) (xq : Nat) (xg : Nat) (xf : Nat) (xe : Nat) (b : Int32) (hz : zbad b) : vx_Met l yX11_readIn (wz yX11_readIn cX11_readIn 6 (some .int)) ({ frames := 9, cells := 1, slots := 6, locals := 200 } : Room) (va_Pc [.ref ax, .int b] (zP D dA dZ [(ax, .inr (0, [.ref xt, .ref xp, .ref xs, .ref xl, .ref xb, .ref xk, .ref xm, .ref xq, .ref xg, .ref xf, .ref xe, .int 49]))] sz)) zNo (zX "java/lang/IndexOutOfBoundsException" (va_A [(ax, .inr (0, [.ref xt, .ref xp, .ref xs, .ref xl, .ref xb, .ref xk, .ref xm, .ref xq, .ref xg, .ref xf, .ref xe, .int 49]))] sz)) 1 6 (va_A [(ax, .inr (0, [.ref xt, .ref xp, .ref xs, .ref xl, .ref xb, .ref xk, .ref xm, .ref xq, .ref xg, .ref xf, .ref xe, .int 49]))] sz) := by
  refine vx_ofW (cc := cX11_readIn) (maxL := 6) (ret := (some .int)) (by decide) rfl ?_
  intro p e s m args below meth c s₁ B hml hno hv
  obtain ⟨rfl, hsz, hP, hK, hD0, hT, hE⟩ := hv
  have hx := B.exec
  have hb := B.bytes
  have hr := B.returns
  have hw := wz_hw (atoms_spec (ws := wz yX11_readIn cX11_readIn 6 (some .int)) B.pre)
  have hown : s.vm.findClass "KindredBooks" = some m.cls := findClass_of_methodNamed B.named
  have hlocks := B.notSynchronized
  have hn := hT.1.use (args := ([.ref ax, .int b] : List Value).toArray)
  subst hsz
  have hD := hD0.self (sz := s.heap.size)
  generalize hAe : va_A [(ax, .inr (0, [.ref xt, .ref xp, .ref xs, .ref xl, .ref xb, .ref xk, .ref xm, .ref xq, .ref xg, .ref xf, .ref xe, .int 49]))] s.heap.size = A at hD hE ⊢
  have hA : ∀ q : Nat, s.heap.size ≤ q → A q := fun q h => by rw [← hAe]; exact Or.inr h
  have hS : va_S A s.heap s.heap [] := va_S.rf
  replace hP : va_P D zcl [(ax, .inr (0, [.ref xt, .ref xp, .ref xs, .ref xl, .ref xb, .ref xk, .ref xm, .ref xq, .ref xg, .ref xf, .ref xe, .int 49]))] s.heap := hP
  have hl := lv_entry ([.ref ax, .int b]) (n := 6) (Nat.le_of_ble_eq_true rfl)
  rw [lg_entry_eq]
  generalize (lg_sl ([.ref ax, .int b]) ++ List.replicate (6 - (lg_sl ([.ref ax, .int b])).length) Slot.unset).toArray = ls at hl ⊢
  replace hl : lv_has ls 6 [(0, .ref ax), (1, .int b)] := hl
  refine lv_aload_n hx hb dX11_readIn_0 rfl (lv_at hl 0 rfl) ?_
  refine lv_iload_n hx hb dX11_readIn_1 rfl (lv_at hl 1 rfl) ?_
  have hPc := hP.sub (ws' := []) [] rfl
  have hDc := hD.sub (ws' := []) [] (by decide) rfl
  have hFc := va_free (wc := []) hD hS hA [] rfl
  refine zx_call (E0 := "java/lang/IndexOutOfBoundsException") (vx_runV (As := [.int b]) (rest := []) ⟨hx, hb, hml, hown, hw⟩ (c_bookOf_no l D dA dZ _ hfl ax b hz) (z_cwV 1 hw mw_603 mw_605 ms_3 mw_1 mw_606 rfl rfl (by decide +kernel) ⟨Nat.le_of_ble_eq_true rfl, Nat.le_of_ble_eq_true rfl⟩) (zPreV hPc hK hDc hT hE hS hFc (va_recv hK hP (ci := 0) (q0 := 0) rfl rfl)) rfl rfl hl.1 rfl (lv_room (Nat.le_of_ble_eq_true rfl)) dX11_readIn_2 ⟨Nat.le_of_ble_eq_true rfl, Nat.le_of_ble_eq_true rfl⟩) hS (fun q _ h => hFc q h) hFc (fun ce q9 H1 locs hz1 hk1 hS hce hcv hcl => ?_)
  exact vx_out (fun x hx => (hno x hx).elim) hlocks hce hcv hcl (fun t ht ha => zX_at hS ht) hS.2.2 (Nat.le_of_ble_eq_true rfl) (Nat.le_of_ble_eq_true rfl)
set_option maxHeartbeats 4000000 in
set_option maxRecDepth 100000 in
/-- groups: no such book -/
theorem c_groups_bad (l : Launch) (D : va_G) (dA : Nat → ClassId) (dZ : Nat → Nat) (sz : Nat) (hfl : l.stackTraces = false) (ax : Nat) (xt : Nat) (xp : Nat) (xs : Nat) (xl : Nat) (xb : Nat) (xk : Nat) (xm : Nat) (xq : Nat) (xg : Nat) (xf : Nat) (xe : Nat) (b : Int32) (hz : zbad b) : vx_Met l yX11_groups (wz yX11_groups cX11_groups 2 (some .int)) ({ frames := 9, cells := 1, slots := 6, locals := 200 } : Room) (va_Pc [.ref ax, .int b] (zP D dA dZ [(ax, .inr (0, [.ref xt, .ref xp, .ref xs, .ref xl, .ref xb, .ref xk, .ref xm, .ref xq, .ref xg, .ref xf, .ref xe, .int 49]))] sz)) zNo (zX "java/lang/IndexOutOfBoundsException" (va_A [(ax, .inr (0, [.ref xt, .ref xp, .ref xs, .ref xl, .ref xb, .ref xk, .ref xm, .ref xq, .ref xg, .ref xf, .ref xe, .int 49]))] sz)) 1 6 (va_A [(ax, .inr (0, [.ref xt, .ref xp, .ref xs, .ref xl, .ref xb, .ref xk, .ref xm, .ref xq, .ref xg, .ref xf, .ref xe, .int 49]))] sz) := by
  refine vx_ofW (cc := cX11_groups) (maxL := 2) (ret := (some .int)) (by decide) rfl ?_
  intro p e s m args below meth c s₁ B hml hno hv
  obtain ⟨rfl, hsz, hP, hK, hD0, hT, hE⟩ := hv
  have hx := B.exec
  have hb := B.bytes
  have hr := B.returns
  have hw := wz_hw (atoms_spec (ws := wz yX11_groups cX11_groups 2 (some .int)) B.pre)
  have hown : s.vm.findClass "KindredBooks" = some m.cls := findClass_of_methodNamed B.named
  have hlocks := B.notSynchronized
  have hn := hT.1.use (args := ([.ref ax, .int b] : List Value).toArray)
  subst hsz
  have hD := hD0.self (sz := s.heap.size)
  generalize hAe : va_A [(ax, .inr (0, [.ref xt, .ref xp, .ref xs, .ref xl, .ref xb, .ref xk, .ref xm, .ref xq, .ref xg, .ref xf, .ref xe, .int 49]))] s.heap.size = A at hD hE ⊢
  have hA : ∀ q : Nat, s.heap.size ≤ q → A q := fun q h => by rw [← hAe]; exact Or.inr h
  have hS : va_S A s.heap s.heap [] := va_S.rf
  replace hP : va_P D zcl [(ax, .inr (0, [.ref xt, .ref xp, .ref xs, .ref xl, .ref xb, .ref xk, .ref xm, .ref xq, .ref xg, .ref xf, .ref xe, .int 49]))] s.heap := hP
  have hl := lv_entry ([.ref ax, .int b]) (n := 2) (Nat.le_of_ble_eq_true rfl)
  rw [lg_entry_eq]
  generalize (lg_sl ([.ref ax, .int b]) ++ List.replicate (2 - (lg_sl ([.ref ax, .int b])).length) Slot.unset).toArray = ls at hl ⊢
  replace hl : lv_has ls 2 [(0, .ref ax), (1, .int b)] := hl
  refine lv_aload_n hx hb dX11_groups_0 rfl (lv_at hl 0 rfl) ?_
  refine lv_iload_n hx hb dX11_groups_1 rfl (lv_at hl 1 rfl) ?_
  have hPc := hP.sub (ws' := []) [] rfl
  have hDc := hD.sub (ws' := []) [] (by decide) rfl
  have hFc := va_free (wc := []) hD hS hA [] rfl
  refine zx_call (E0 := "java/lang/IndexOutOfBoundsException") (vx_runV (As := [.int b]) (rest := []) ⟨hx, hb, hml, hown, hw⟩ (c_kinOf_no l D dA dZ _ hfl ax b hz) (z_cwV 1 hw mw_863 mw_865 ms_17 mw_1 mw_866 rfl rfl (by decide +kernel) ⟨Nat.le_of_ble_eq_true rfl, Nat.le_of_ble_eq_true rfl⟩) (zPreV hPc hK hDc hT hE hS hFc (va_recv hK hP (ci := 0) (q0 := 0) rfl rfl)) rfl rfl hl.1 rfl (lv_room (Nat.le_of_ble_eq_true rfl)) dX11_groups_2 ⟨Nat.le_of_ble_eq_true rfl, Nat.le_of_ble_eq_true rfl⟩) hS (fun q _ h => hFc q h) hFc (fun ce q9 H1 locs hz1 hk1 hS hce hcv hcl => ?_)
  exact vx_out (fun x hx => (hno x hx).elim) hlocks hce hcv hcl (fun t ht ha => zX_at hS ht) hS.2.2 (Nat.le_of_ble_eq_true rfl) (Nat.le_of_ble_eq_true rfl)
set_option maxHeartbeats 4000000 in
set_option maxRecDepth 100000 in
/-- looked: no such book -/
theorem c_looked_bad (l : Launch) (D : va_G) (dA : Nat → ClassId) (dZ : Nat → Nat) (sz : Nat) (hfl : l.stackTraces = false) (ax : Nat) (xt : Nat) (xp : Nat) (xs : Nat) (xl : Nat) (xb : Nat) (xk : Nat) (xm : Nat) (xq : Nat) (xg : Nat) (xf : Nat) (xe : Nat) (b : Int32) (hz : zbad b) : vx_Met l yX11_looked (wz yX11_looked cX11_looked 6 (some .int)) ({ frames := 9, cells := 1, slots := 6, locals := 200 } : Room) (va_Pc [.ref ax, .int b] (zP D dA dZ [(ax, .inr (0, [.ref xt, .ref xp, .ref xs, .ref xl, .ref xb, .ref xk, .ref xm, .ref xq, .ref xg, .ref xf, .ref xe, .int 49]))] sz)) zNo (zX "java/lang/IndexOutOfBoundsException" (va_A [(ax, .inr (0, [.ref xt, .ref xp, .ref xs, .ref xl, .ref xb, .ref xk, .ref xm, .ref xq, .ref xg, .ref xf, .ref xe, .int 49]))] sz)) 1 6 (va_A [(ax, .inr (0, [.ref xt, .ref xp, .ref xs, .ref xl, .ref xb, .ref xk, .ref xm, .ref xq, .ref xg, .ref xf, .ref xe, .int 49]))] sz) := by
  refine vx_ofW (cc := cX11_looked) (maxL := 6) (ret := (some .int)) (by decide) rfl ?_
  intro p e s m args below meth c s₁ B hml hno hv
  obtain ⟨rfl, hsz, hP, hK, hD0, hT, hE⟩ := hv
  have hx := B.exec
  have hb := B.bytes
  have hr := B.returns
  have hw := wz_hw (atoms_spec (ws := wz yX11_looked cX11_looked 6 (some .int)) B.pre)
  have hown : s.vm.findClass "KindredBooks" = some m.cls := findClass_of_methodNamed B.named
  have hlocks := B.notSynchronized
  have hn := hT.1.use (args := ([.ref ax, .int b] : List Value).toArray)
  subst hsz
  have hD := hD0.self (sz := s.heap.size)
  generalize hAe : va_A [(ax, .inr (0, [.ref xt, .ref xp, .ref xs, .ref xl, .ref xb, .ref xk, .ref xm, .ref xq, .ref xg, .ref xf, .ref xe, .int 49]))] s.heap.size = A at hD hE ⊢
  have hA : ∀ q : Nat, s.heap.size ≤ q → A q := fun q h => by rw [← hAe]; exact Or.inr h
  have hS : va_S A s.heap s.heap [] := va_S.rf
  replace hP : va_P D zcl [(ax, .inr (0, [.ref xt, .ref xp, .ref xs, .ref xl, .ref xb, .ref xk, .ref xm, .ref xq, .ref xg, .ref xf, .ref xe, .int 49]))] s.heap := hP
  have hl := lv_entry ([.ref ax, .int b]) (n := 6) (Nat.le_of_ble_eq_true rfl)
  rw [lg_entry_eq]
  generalize (lg_sl ([.ref ax, .int b]) ++ List.replicate (6 - (lg_sl ([.ref ax, .int b])).length) Slot.unset).toArray = ls at hl ⊢
  replace hl : lv_has ls 6 [(0, .ref ax), (1, .int b)] := hl
  refine lv_aload_n hx hb dX11_looked_0 rfl (lv_at hl 0 rfl) ?_
  refine lv_iload_n hx hb dX11_looked_1 rfl (lv_at hl 1 rfl) ?_
  have hPc := hP.sub (ws' := []) [] rfl
  have hDc := hD.sub (ws' := []) [] (by decide) rfl
  have hFc := va_free (wc := []) hD hS hA [] rfl
  refine zx_call (E0 := "java/lang/IndexOutOfBoundsException") (vx_runV (As := [.int b]) (rest := []) ⟨hx, hb, hml, hown, hw⟩ (c_kinOf_no l D dA dZ _ hfl ax b hz) (z_cwV 1 hw mw_863 mw_865 ms_17 mw_1 mw_866 rfl rfl (by decide +kernel) ⟨Nat.le_of_ble_eq_true rfl, Nat.le_of_ble_eq_true rfl⟩) (zPreV hPc hK hDc hT hE hS hFc (va_recv hK hP (ci := 0) (q0 := 0) rfl rfl)) rfl rfl hl.1 rfl (lv_room (Nat.le_of_ble_eq_true rfl)) dX11_looked_2 ⟨Nat.le_of_ble_eq_true rfl, Nat.le_of_ble_eq_true rfl⟩) hS (fun q _ h => hFc q h) hFc (fun ce q9 H1 locs hz1 hk1 hS hce hcv hcl => ?_)
  exact vx_out (fun x hx => (hno x hx).elim) hlocks hce hcv hcl (fun t ht ha => zX_at hS ht) hS.2.2 (Nat.le_of_ble_eq_true rfl) (Nat.le_of_ble_eq_true rfl)
set_option maxHeartbeats 4000000 in
set_option maxRecDepth 100000 in
/-- digest: no such book -/
theorem c_digest_bad (l : Launch) (D : va_G) (dA : Nat → ClassId) (dZ : Nat → Nat) (sz : Nat) (hfl : l.stackTraces = false) (ax : Nat) (xt : Nat) (xp : Nat) (xs : Nat) (xl : Nat) (xb : Nat) (xk : Nat) (xm : Nat) (xq : Nat) (xg : Nat) (xf : Nat) (xe : Nat) (b : Int32) (hz : zbad b) : vx_Met l yX11_digest (wz yX11_digest cX11_digest 8 (some .long)) ({ frames := 9, cells := 1, slots := 6, locals := 200 } : Room) (va_Pc [.ref ax, .int b] (zP D dA dZ [(ax, .inr (0, [.ref xt, .ref xp, .ref xs, .ref xl, .ref xb, .ref xk, .ref xm, .ref xq, .ref xg, .ref xf, .ref xe, .int 49]))] sz)) zNo (zX "java/lang/IndexOutOfBoundsException" (va_A [(ax, .inr (0, [.ref xt, .ref xp, .ref xs, .ref xl, .ref xb, .ref xk, .ref xm, .ref xq, .ref xg, .ref xf, .ref xe, .int 49]))] sz)) 1 6 (va_A [(ax, .inr (0, [.ref xt, .ref xp, .ref xs, .ref xl, .ref xb, .ref xk, .ref xm, .ref xq, .ref xg, .ref xf, .ref xe, .int 49]))] sz) := by
  refine vx_ofW (cc := cX11_digest) (maxL := 8) (ret := (some .long)) (by decide) rfl ?_
  intro p e s m args below meth c s₁ B hml hno hv
  obtain ⟨rfl, hsz, hP, hK, hD0, hT, hE⟩ := hv
  have hx := B.exec
  have hb := B.bytes
  have hr := B.returns
  have hw := wz_hw (atoms_spec (ws := wz yX11_digest cX11_digest 8 (some .long)) B.pre)
  have hown : s.vm.findClass "KindredBooks" = some m.cls := findClass_of_methodNamed B.named
  have hlocks := B.notSynchronized
  have hn := hT.1.use (args := ([.ref ax, .int b] : List Value).toArray)
  subst hsz
  have hD := hD0.self (sz := s.heap.size)
  generalize hAe : va_A [(ax, .inr (0, [.ref xt, .ref xp, .ref xs, .ref xl, .ref xb, .ref xk, .ref xm, .ref xq, .ref xg, .ref xf, .ref xe, .int 49]))] s.heap.size = A at hD hE ⊢
  have hA : ∀ q : Nat, s.heap.size ≤ q → A q := fun q h => by rw [← hAe]; exact Or.inr h
  have hS : va_S A s.heap s.heap [] := va_S.rf
  replace hP : va_P D zcl [(ax, .inr (0, [.ref xt, .ref xp, .ref xs, .ref xl, .ref xb, .ref xk, .ref xm, .ref xq, .ref xg, .ref xf, .ref xe, .int 49]))] s.heap := hP
  have hl := lv_entry ([.ref ax, .int b]) (n := 8) (Nat.le_of_ble_eq_true rfl)
  rw [lg_entry_eq]
  generalize (lg_sl ([.ref ax, .int b]) ++ List.replicate (8 - (lg_sl ([.ref ax, .int b])).length) Slot.unset).toArray = ls at hl ⊢
  replace hl : lv_has ls 8 [(0, .ref ax), (1, .int b)] := hl
  refine lv_aload_n hx hb dX11_digest_0 rfl (lv_at hl 0 rfl) ?_
  refine lv_iload_n hx hb dX11_digest_1 rfl (lv_at hl 1 rfl) ?_
  have hPc := hP.sub (ws' := []) [] rfl
  have hDc := hD.sub (ws' := []) [] (by decide) rfl
  have hFc := va_free (wc := []) hD hS hA [] rfl
  refine zx_call (E0 := "java/lang/IndexOutOfBoundsException") (vx_runV (As := [.int b]) (rest := []) ⟨hx, hb, hml, hown, hw⟩ (c_kinOf_no l D dA dZ _ hfl ax b hz) (z_cwV 1 hw mw_863 mw_865 ms_17 mw_1 mw_866 rfl rfl (by decide +kernel) ⟨Nat.le_of_ble_eq_true rfl, Nat.le_of_ble_eq_true rfl⟩) (zPreV hPc hK hDc hT hE hS hFc (va_recv hK hP (ci := 0) (q0 := 0) rfl rfl)) rfl rfl hl.1 rfl (lv_room (Nat.le_of_ble_eq_true rfl)) dX11_digest_2 ⟨Nat.le_of_ble_eq_true rfl, Nat.le_of_ble_eq_true rfl⟩) hS (fun q _ h => hFc q h) hFc (fun ce q9 H1 locs hz1 hk1 hS hce hcv hcl => ?_)
  exact vx_out (fun x hx => (hno x hx).elim) hlocks hce hcv hcl (fun t ht ha => zX_at hS ht) hS.2.2 (Nat.le_of_ble_eq_true rfl) (Nat.le_of_ble_eq_true rfl)
set_option maxHeartbeats 4000000 in
set_option maxRecDepth 100000 in
/-- errors: no such book -/
theorem c_errors_bad (l : Launch) (D : va_G) (dA : Nat → ClassId) (dZ : Nat → Nat) (sz : Nat) (hfl : l.stackTraces = false) (ax : Nat) (xt : Nat) (xp : Nat) (xs : Nat) (xl : Nat) (xb : Nat) (xk : Nat) (xm : Nat) (xq : Nat) (xg : Nat) (xf : Nat) (xe : Nat) (b : Int32) (hz : zbad b) : vx_Met l yX11_errors (wz yX11_errors cX11_errors 4 (some .int)) ({ frames := 9, cells := 1, slots := 6, locals := 200 } : Room) (va_Pc [.ref ax, .int b] (zP D dA dZ [(ax, .inr (0, [.ref xt, .ref xp, .ref xs, .ref xl, .ref xb, .ref xk, .ref xm, .ref xq, .ref xg, .ref xf, .ref xe, .int 49]))] sz)) zNo (zX "java/lang/IndexOutOfBoundsException" (va_A [(ax, .inr (0, [.ref xt, .ref xp, .ref xs, .ref xl, .ref xb, .ref xk, .ref xm, .ref xq, .ref xg, .ref xf, .ref xe, .int 49]))] sz)) 1 6 (va_A [(ax, .inr (0, [.ref xt, .ref xp, .ref xs, .ref xl, .ref xb, .ref xk, .ref xm, .ref xq, .ref xg, .ref xf, .ref xe, .int 49]))] sz) := by
  refine vx_ofW (cc := cX11_errors) (maxL := 4) (ret := (some .int)) (by decide) rfl ?_
  intro p e s m args below meth c s₁ B hml hno hv
  obtain ⟨rfl, hsz, hP, hK, hD0, hT, hE⟩ := hv
  have hx := B.exec
  have hb := B.bytes
  have hr := B.returns
  have hw := wz_hw (atoms_spec (ws := wz yX11_errors cX11_errors 4 (some .int)) B.pre)
  have hown : s.vm.findClass "KindredBooks" = some m.cls := findClass_of_methodNamed B.named
  have hlocks := B.notSynchronized
  have hn := hT.1.use (args := ([.ref ax, .int b] : List Value).toArray)
  subst hsz
  have hD := hD0.self (sz := s.heap.size)
  generalize hAe : va_A [(ax, .inr (0, [.ref xt, .ref xp, .ref xs, .ref xl, .ref xb, .ref xk, .ref xm, .ref xq, .ref xg, .ref xf, .ref xe, .int 49]))] s.heap.size = A at hD hE ⊢
  have hA : ∀ q : Nat, s.heap.size ≤ q → A q := fun q h => by rw [← hAe]; exact Or.inr h
  have hS : va_S A s.heap s.heap [] := va_S.rf
  replace hP : va_P D zcl [(ax, .inr (0, [.ref xt, .ref xp, .ref xs, .ref xl, .ref xb, .ref xk, .ref xm, .ref xq, .ref xg, .ref xf, .ref xe, .int 49]))] s.heap := hP
  have hl := lv_entry ([.ref ax, .int b]) (n := 4) (Nat.le_of_ble_eq_true rfl)
  rw [lg_entry_eq]
  generalize (lg_sl ([.ref ax, .int b]) ++ List.replicate (4 - (lg_sl ([.ref ax, .int b])).length) Slot.unset).toArray = ls at hl ⊢
  replace hl : lv_has ls 4 [(0, .ref ax), (1, .int b)] := hl
  refine lv_aload_n hx hb dX11_errors_0 rfl (lv_at hl 0 rfl) ?_
  refine lv_iload_n hx hb dX11_errors_1 rfl (lv_at hl 1 rfl) ?_
  have hPc := hP.sub (ws' := []) [] rfl
  have hDc := hD.sub (ws' := []) [] (by decide) rfl
  have hFc := va_free (wc := []) hD hS hA [] rfl
  refine zx_call (E0 := "java/lang/IndexOutOfBoundsException") (vx_runV (As := [.int b]) (rest := []) ⟨hx, hb, hml, hown, hw⟩ (c_kinOf_no l D dA dZ _ hfl ax b hz) (z_cwV 1 hw mw_863 mw_865 ms_17 mw_1 mw_866 rfl rfl (by decide +kernel) ⟨Nat.le_of_ble_eq_true rfl, Nat.le_of_ble_eq_true rfl⟩) (zPreV hPc hK hDc hT hE hS hFc (va_recv hK hP (ci := 0) (q0 := 0) rfl rfl)) rfl rfl hl.1 rfl (lv_room (Nat.le_of_ble_eq_true rfl)) dX11_errors_2 ⟨Nat.le_of_ble_eq_true rfl, Nat.le_of_ble_eq_true rfl⟩) hS (fun q _ h => hFc q h) hFc (fun ce q9 H1 locs hz1 hk1 hS hce hcv hcl => ?_)
  exact vx_out (fun x hx => (hno x hx).elim) hlocks hce hcv hcl (fun t ht ha => zX_at hS ht) hS.2.2 (Nat.le_of_ble_eq_true rfl) (Nat.le_of_ble_eq_true rfl)
set_option maxHeartbeats 4000000 in
set_option maxRecDepth 100000 in
/-- gone: no such book -/
theorem c_gone_bad (l : Launch) (D : va_G) (dA : Nat → ClassId) (dZ : Nat → Nat) (sz : Nat) (hfl : l.stackTraces = false) (ax : Nat) (xt : Nat) (xp : Nat) (xs : Nat) (xl : Nat) (xb : Nat) (xk : Nat) (xm : Nat) (xq : Nat) (xg : Nat) (xf : Nat) (xe : Nat) (b : Int32) (y0 : Int32) (hz : zbad b) : vx_Met l yX11_gone (wz yX11_gone cX11_gone 4 (some .int)) ({ frames := 9, cells := 1, slots := 6, locals := 200 } : Room) (va_Pc [.ref ax, .int b, .int y0] (zP D dA dZ [(ax, .inr (0, [.ref xt, .ref xp, .ref xs, .ref xl, .ref xb, .ref xk, .ref xm, .ref xq, .ref xg, .ref xf, .ref xe, .int 49]))] sz)) zNo (zX "java/lang/IndexOutOfBoundsException" (va_A [(ax, .inr (0, [.ref xt, .ref xp, .ref xs, .ref xl, .ref xb, .ref xk, .ref xm, .ref xq, .ref xg, .ref xf, .ref xe, .int 49]))] sz)) 1 6 (va_A [(ax, .inr (0, [.ref xt, .ref xp, .ref xs, .ref xl, .ref xb, .ref xk, .ref xm, .ref xq, .ref xg, .ref xf, .ref xe, .int 49]))] sz) := by
  refine vx_ofW (cc := cX11_gone) (maxL := 4) (ret := (some .int)) (by decide) rfl ?_
  intro p e s m args below meth c s₁ B hml hno hv
  obtain ⟨rfl, hsz, hP, hK, hD0, hT, hE⟩ := hv
  have hx := B.exec
  have hb := B.bytes
  have hr := B.returns
  have hw := wz_hw (atoms_spec (ws := wz yX11_gone cX11_gone 4 (some .int)) B.pre)
  have hown : s.vm.findClass "KindredBooks" = some m.cls := findClass_of_methodNamed B.named
  have hlocks := B.notSynchronized
  have hn := hT.1.use (args := ([.ref ax, .int b, .int y0] : List Value).toArray)
  subst hsz
  have hD := hD0.self (sz := s.heap.size)
  generalize hAe : va_A [(ax, .inr (0, [.ref xt, .ref xp, .ref xs, .ref xl, .ref xb, .ref xk, .ref xm, .ref xq, .ref xg, .ref xf, .ref xe, .int 49]))] s.heap.size = A at hD hE ⊢
  have hA : ∀ q : Nat, s.heap.size ≤ q → A q := fun q h => by rw [← hAe]; exact Or.inr h
  have hS : va_S A s.heap s.heap [] := va_S.rf
  replace hP : va_P D zcl [(ax, .inr (0, [.ref xt, .ref xp, .ref xs, .ref xl, .ref xb, .ref xk, .ref xm, .ref xq, .ref xg, .ref xf, .ref xe, .int 49]))] s.heap := hP
  have hl := lv_entry ([.ref ax, .int b, .int y0]) (n := 4) (Nat.le_of_ble_eq_true rfl)
  rw [lg_entry_eq]
  generalize (lg_sl ([.ref ax, .int b, .int y0]) ++ List.replicate (4 - (lg_sl ([.ref ax, .int b, .int y0])).length) Slot.unset).toArray = ls at hl ⊢
  replace hl : lv_has ls 4 [(0, .ref ax), (1, .int b), (2, .int y0)] := hl
  refine lv_aload_n hx hb dX11_gone_0 rfl (lv_at hl 0 rfl) ?_
  refine lv_iload_n hx hb dX11_gone_1 rfl (lv_at hl 1 rfl) ?_
  have hPc := hP.sub (ws' := []) [] rfl
  have hDc := hD.sub (ws' := []) [] (by decide) rfl
  have hFc := va_free (wc := []) hD hS hA [] rfl
  refine zx_call (E0 := "java/lang/IndexOutOfBoundsException") (vx_runV (As := [.int b]) (rest := []) ⟨hx, hb, hml, hown, hw⟩ (c_bookOf_no l D dA dZ _ hfl ax b hz) (z_cwV 1 hw mw_603 mw_605 ms_3 mw_1 mw_606 rfl rfl (by decide +kernel) ⟨Nat.le_of_ble_eq_true rfl, Nat.le_of_ble_eq_true rfl⟩) (zPreV hPc hK hDc hT hE hS hFc (va_recv hK hP (ci := 0) (q0 := 0) rfl rfl)) rfl rfl hl.1 rfl (lv_room (Nat.le_of_ble_eq_true rfl)) dX11_gone_2 ⟨Nat.le_of_ble_eq_true rfl, Nat.le_of_ble_eq_true rfl⟩) hS (fun q _ h => hFc q h) hFc (fun ce q9 H1 locs hz1 hk1 hS hce hcv hcl => ?_)
  exact vx_out (fun x hx => (hno x hx).elim) hlocks hce hcv hcl (fun t ht ha => zX_at hS ht) hS.2.2 (Nat.le_of_ble_eq_true rfl) (Nat.le_of_ble_eq_true rfl)
set_option maxHeartbeats 4000000 in
set_option maxRecDepth 100000 in
/-- back: no such book -/
theorem c_back_bad (l : Launch) (D : va_G) (dA : Nat → ClassId) (dZ : Nat → Nat) (sz : Nat) (hfl : l.stackTraces = false) (ax : Nat) (xt : Nat) (xp : Nat) (xs : Nat) (xl : Nat) (xb : Nat) (xk : Nat) (xm : Nat) (xq : Nat) (xg : Nat) (xf : Nat) (xe : Nat) (b : Int32) (y0 : Int32) (hz : zbad b) : vx_Met l yX11_back (wz yX11_back cX11_back 4 (some .int)) ({ frames := 9, cells := 1, slots := 6, locals := 200 } : Room) (va_Pc [.ref ax, .int b, .int y0] (zP D dA dZ [(ax, .inr (0, [.ref xt, .ref xp, .ref xs, .ref xl, .ref xb, .ref xk, .ref xm, .ref xq, .ref xg, .ref xf, .ref xe, .int 49]))] sz)) zNo (zX "java/lang/IndexOutOfBoundsException" (va_A [(ax, .inr (0, [.ref xt, .ref xp, .ref xs, .ref xl, .ref xb, .ref xk, .ref xm, .ref xq, .ref xg, .ref xf, .ref xe, .int 49]))] sz)) 1 6 (va_A [(ax, .inr (0, [.ref xt, .ref xp, .ref xs, .ref xl, .ref xb, .ref xk, .ref xm, .ref xq, .ref xg, .ref xf, .ref xe, .int 49]))] sz) := by
  refine vx_ofW (cc := cX11_back) (maxL := 4) (ret := (some .int)) (by decide) rfl ?_
  intro p e s m args below meth c s₁ B hml hno hv
  obtain ⟨rfl, hsz, hP, hK, hD0, hT, hE⟩ := hv
  have hx := B.exec
  have hb := B.bytes
  have hr := B.returns
  have hw := wz_hw (atoms_spec (ws := wz yX11_back cX11_back 4 (some .int)) B.pre)
  have hown : s.vm.findClass "KindredBooks" = some m.cls := findClass_of_methodNamed B.named
  have hlocks := B.notSynchronized
  have hn := hT.1.use (args := ([.ref ax, .int b, .int y0] : List Value).toArray)
  subst hsz
  have hD := hD0.self (sz := s.heap.size)
  generalize hAe : va_A [(ax, .inr (0, [.ref xt, .ref xp, .ref xs, .ref xl, .ref xb, .ref xk, .ref xm, .ref xq, .ref xg, .ref xf, .ref xe, .int 49]))] s.heap.size = A at hD hE ⊢
  have hA : ∀ q : Nat, s.heap.size ≤ q → A q := fun q h => by rw [← hAe]; exact Or.inr h
  have hS : va_S A s.heap s.heap [] := va_S.rf
  replace hP : va_P D zcl [(ax, .inr (0, [.ref xt, .ref xp, .ref xs, .ref xl, .ref xb, .ref xk, .ref xm, .ref xq, .ref xg, .ref xf, .ref xe, .int 49]))] s.heap := hP
  have hl := lv_entry ([.ref ax, .int b, .int y0]) (n := 4) (Nat.le_of_ble_eq_true rfl)
  rw [lg_entry_eq]
  generalize (lg_sl ([.ref ax, .int b, .int y0]) ++ List.replicate (4 - (lg_sl ([.ref ax, .int b, .int y0])).length) Slot.unset).toArray = ls at hl ⊢
  replace hl : lv_has ls 4 [(0, .ref ax), (1, .int b), (2, .int y0)] := hl
  refine lv_aload_n hx hb dX11_back_0 rfl (lv_at hl 0 rfl) ?_
  refine lv_iload_n hx hb dX11_back_1 rfl (lv_at hl 1 rfl) ?_
  have hPc := hP.sub (ws' := []) [] rfl
  have hDc := hD.sub (ws' := []) [] (by decide) rfl
  have hFc := va_free (wc := []) hD hS hA [] rfl
  refine zx_call (E0 := "java/lang/IndexOutOfBoundsException") (vx_runV (As := [.int b]) (rest := []) ⟨hx, hb, hml, hown, hw⟩ (c_bookOf_no l D dA dZ _ hfl ax b hz) (z_cwV 1 hw mw_603 mw_605 ms_3 mw_1 mw_606 rfl rfl (by decide +kernel) ⟨Nat.le_of_ble_eq_true rfl, Nat.le_of_ble_eq_true rfl⟩) (zPreV hPc hK hDc hT hE hS hFc (va_recv hK hP (ci := 0) (q0 := 0) rfl rfl)) rfl rfl hl.1 rfl (lv_room (Nat.le_of_ble_eq_true rfl)) dX11_back_2 ⟨Nat.le_of_ble_eq_true rfl, Nat.le_of_ble_eq_true rfl⟩) hS (fun q _ h => hFc q h) hFc (fun ce q9 H1 locs hz1 hk1 hS hce hcv hcl => ?_)
  exact vx_out (fun x hx => (hno x hx).elim) hlocks hce hcv hcl (fun t ht ha => zX_at hS ht) hS.2.2 (Nat.le_of_ble_eq_true rfl) (Nat.le_of_ble_eq_true rfl)
set_option maxHeartbeats 4000000 in
set_option maxRecDepth 100000 in
/-- hear: no such book -/
theorem c_hear_bad (l : Launch) (D : va_G) (dA : Nat → ClassId) (dZ : Nat → Nat) (sz : Nat) (hfl : l.stackTraces = false) (ax : Nat) (xt : Nat) (xp : Nat) (xs : Nat) (xl : Nat) (xb : Nat) (xk : Nat) (xm : Nat) (xq : Nat) (xg : Nat) (xf : Nat) (xe : Nat) (b : Int32) (y0 : Int32) (hz : zbad b) : vx_Met l yX11_hear (wz yX11_hear cX11_hear 4 (some .int)) ({ frames := 9, cells := 1, slots := 6, locals := 200 } : Room) (va_Pc [.ref ax, .int b, .int y0] (zP D dA dZ [(ax, .inr (0, [.ref xt, .ref xp, .ref xs, .ref xl, .ref xb, .ref xk, .ref xm, .ref xq, .ref xg, .ref xf, .ref xe, .int 49]))] sz)) zNo (zX "java/lang/IndexOutOfBoundsException" (va_A [(ax, .inr (0, [.ref xt, .ref xp, .ref xs, .ref xl, .ref xb, .ref xk, .ref xm, .ref xq, .ref xg, .ref xf, .ref xe, .int 49]))] sz)) 1 6 (va_A [(ax, .inr (0, [.ref xt, .ref xp, .ref xs, .ref xl, .ref xb, .ref xk, .ref xm, .ref xq, .ref xg, .ref xf, .ref xe, .int 49]))] sz) := by
  refine vx_ofW (cc := cX11_hear) (maxL := 4) (ret := (some .int)) (by decide) rfl ?_
  intro p e s m args below meth c s₁ B hml hno hv
  obtain ⟨rfl, hsz, hP, hK, hD0, hT, hE⟩ := hv
  have hx := B.exec
  have hb := B.bytes
  have hr := B.returns
  have hw := wz_hw (atoms_spec (ws := wz yX11_hear cX11_hear 4 (some .int)) B.pre)
  have hown : s.vm.findClass "KindredBooks" = some m.cls := findClass_of_methodNamed B.named
  have hlocks := B.notSynchronized
  have hn := hT.1.use (args := ([.ref ax, .int b, .int y0] : List Value).toArray)
  subst hsz
  have hD := hD0.self (sz := s.heap.size)
  generalize hAe : va_A [(ax, .inr (0, [.ref xt, .ref xp, .ref xs, .ref xl, .ref xb, .ref xk, .ref xm, .ref xq, .ref xg, .ref xf, .ref xe, .int 49]))] s.heap.size = A at hD hE ⊢
  have hA : ∀ q : Nat, s.heap.size ≤ q → A q := fun q h => by rw [← hAe]; exact Or.inr h
  have hS : va_S A s.heap s.heap [] := va_S.rf
  replace hP : va_P D zcl [(ax, .inr (0, [.ref xt, .ref xp, .ref xs, .ref xl, .ref xb, .ref xk, .ref xm, .ref xq, .ref xg, .ref xf, .ref xe, .int 49]))] s.heap := hP
  have hl := lv_entry ([.ref ax, .int b, .int y0]) (n := 4) (Nat.le_of_ble_eq_true rfl)
  rw [lg_entry_eq]
  generalize (lg_sl ([.ref ax, .int b, .int y0]) ++ List.replicate (4 - (lg_sl ([.ref ax, .int b, .int y0])).length) Slot.unset).toArray = ls at hl ⊢
  replace hl : lv_has ls 4 [(0, .ref ax), (1, .int b), (2, .int y0)] := hl
  refine lv_aload_n hx hb dX11_hear_0 rfl (lv_at hl 0 rfl) ?_
  refine lv_iload_n hx hb dX11_hear_1 rfl (lv_at hl 1 rfl) ?_
  have hPc := hP.sub (ws' := []) [] rfl
  have hDc := hD.sub (ws' := []) [] (by decide) rfl
  have hFc := va_free (wc := []) hD hS hA [] rfl
  refine zx_call (E0 := "java/lang/IndexOutOfBoundsException") (vx_runV (As := [.int b]) (rest := []) ⟨hx, hb, hml, hown, hw⟩ (c_bookOf_no l D dA dZ _ hfl ax b hz) (z_cwV 1 hw mw_603 mw_605 ms_3 mw_1 mw_606 rfl rfl (by decide +kernel) ⟨Nat.le_of_ble_eq_true rfl, Nat.le_of_ble_eq_true rfl⟩) (zPreV hPc hK hDc hT hE hS hFc (va_recv hK hP (ci := 0) (q0 := 0) rfl rfl)) rfl rfl hl.1 rfl (lv_room (Nat.le_of_ble_eq_true rfl)) dX11_hear_2 ⟨Nat.le_of_ble_eq_true rfl, Nat.le_of_ble_eq_true rfl⟩) hS (fun q _ h => hFc q h) hFc (fun ce q9 H1 locs hz1 hk1 hS hce hcv hcl => ?_)
  exact vx_out (fun x hx => (hno x hx).elim) hlocks hce hcv hcl (fun t ht ha => zX_at hS ht) hS.2.2 (Nat.le_of_ble_eq_true rfl) (Nat.le_of_ble_eq_true rfl)
set_option maxHeartbeats 4000000 in
set_option maxRecDepth 100000 in
/-- agree: no such book -/
theorem c_agree_bad (l : Launch) (D : va_G) (dA : Nat → ClassId) (dZ : Nat → Nat) (sz : Nat) (hfl : l.stackTraces = false) (ax : Nat) (xt : Nat) (xp : Nat) (xs : Nat) (xl : Nat) (xb : Nat) (xk : Nat) (xm : Nat) (xq : Nat) (xg : Nat) (xf : Nat) (xe : Nat) (b : Int32) (y0 : Int32) (hz : zbad b) : vx_Met l yX11_agree (wz yX11_agree cX11_agree 4 (some .boolean)) ({ frames := 9, cells := 1, slots := 6, locals := 200 } : Room) (va_Pc [.ref ax, .int b, .int y0] (zP D dA dZ [(ax, .inr (0, [.ref xt, .ref xp, .ref xs, .ref xl, .ref xb, .ref xk, .ref xm, .ref xq, .ref xg, .ref xf, .ref xe, .int 49]))] sz)) zNo (zX "java/lang/IndexOutOfBoundsException" (va_A [(ax, .inr (0, [.ref xt, .ref xp, .ref xs, .ref xl, .ref xb, .ref xk, .ref xm, .ref xq, .ref xg, .ref xf, .ref xe, .int 49]))] sz)) 1 6 (va_A [(ax, .inr (0, [.ref xt, .ref xp, .ref xs, .ref xl, .ref xb, .ref xk, .ref xm, .ref xq, .ref xg, .ref xf, .ref xe, .int 49]))] sz) := by
  refine vx_ofW (cc := cX11_agree) (maxL := 4) (ret := (some .boolean)) (by decide) rfl ?_
  intro p e s m args below meth c s₁ B hml hno hv
  obtain ⟨rfl, hsz, hP, hK, hD0, hT, hE⟩ := hv
  have hx := B.exec
  have hb := B.bytes
  have hr := B.returns
  have hw := wz_hw (atoms_spec (ws := wz yX11_agree cX11_agree 4 (some .boolean)) B.pre)
  have hown : s.vm.findClass "KindredBooks" = some m.cls := findClass_of_methodNamed B.named
  have hlocks := B.notSynchronized
  have hn := hT.1.use (args := ([.ref ax, .int b, .int y0] : List Value).toArray)
  subst hsz
  have hD := hD0.self (sz := s.heap.size)
  generalize hAe : va_A [(ax, .inr (0, [.ref xt, .ref xp, .ref xs, .ref xl, .ref xb, .ref xk, .ref xm, .ref xq, .ref xg, .ref xf, .ref xe, .int 49]))] s.heap.size = A at hD hE ⊢
  have hA : ∀ q : Nat, s.heap.size ≤ q → A q := fun q h => by rw [← hAe]; exact Or.inr h
  have hS : va_S A s.heap s.heap [] := va_S.rf
  replace hP : va_P D zcl [(ax, .inr (0, [.ref xt, .ref xp, .ref xs, .ref xl, .ref xb, .ref xk, .ref xm, .ref xq, .ref xg, .ref xf, .ref xe, .int 49]))] s.heap := hP
  have hl := lv_entry ([.ref ax, .int b, .int y0]) (n := 4) (Nat.le_of_ble_eq_true rfl)
  rw [lg_entry_eq]
  generalize (lg_sl ([.ref ax, .int b, .int y0]) ++ List.replicate (4 - (lg_sl ([.ref ax, .int b, .int y0])).length) Slot.unset).toArray = ls at hl ⊢
  replace hl : lv_has ls 4 [(0, .ref ax), (1, .int b), (2, .int y0)] := hl
  refine lv_aload_n hx hb dX11_agree_0 rfl (lv_at hl 0 rfl) ?_
  refine lv_iload_n hx hb dX11_agree_1 rfl (lv_at hl 1 rfl) ?_
  have hPc := hP.sub (ws' := []) [] rfl
  have hDc := hD.sub (ws' := []) [] (by decide) rfl
  have hFc := va_free (wc := []) hD hS hA [] rfl
  refine zx_call (E0 := "java/lang/IndexOutOfBoundsException") (vx_runV (As := [.int b]) (rest := []) ⟨hx, hb, hml, hown, hw⟩ (c_bookOf_no l D dA dZ _ hfl ax b hz) (z_cwV 1 hw mw_603 mw_605 ms_3 mw_1 mw_606 rfl rfl (by decide +kernel) ⟨Nat.le_of_ble_eq_true rfl, Nat.le_of_ble_eq_true rfl⟩) (zPreV hPc hK hDc hT hE hS hFc (va_recv hK hP (ci := 0) (q0 := 0) rfl rfl)) rfl rfl hl.1 rfl (lv_room (Nat.le_of_ble_eq_true rfl)) dX11_agree_2 ⟨Nat.le_of_ble_eq_true rfl, Nat.le_of_ble_eq_true rfl⟩) hS (fun q _ h => hFc q h) hFc (fun ce q9 H1 locs hz1 hk1 hS hce hcv hcl => ?_)
  exact vx_out (fun x hx => (hno x hx).elim) hlocks hce hcv hcl (fun t ht ha => zX_at hS ht) hS.2.2 (Nat.le_of_ble_eq_true rfl) (Nat.le_of_ble_eq_true rfl)
set_option maxHeartbeats 4000000 in
set_option maxRecDepth 100000 in
/-- counts: no such book -/
theorem c_counts_bad (l : Launch) (D : va_G) (dA : Nat → ClassId) (dZ : Nat → Nat) (sz : Nat) (hfl : l.stackTraces = false) (ax : Nat) (xt : Nat) (xp : Nat) (xs : Nat) (xl : Nat) (xb : Nat) (xk : Nat) (xm : Nat) (xq : Nat) (xg : Nat) (xf : Nat) (xe : Nat) (b : Int32) (y0 : Int32) (hz : zbad b) : vx_Met l yX11_counts (wz yX11_counts cX11_counts 4 (some .boolean)) ({ frames := 9, cells := 1, slots := 6, locals := 200 } : Room) (va_Pc [.ref ax, .int b, .int y0] (zP D dA dZ [(ax, .inr (0, [.ref xt, .ref xp, .ref xs, .ref xl, .ref xb, .ref xk, .ref xm, .ref xq, .ref xg, .ref xf, .ref xe, .int 49]))] sz)) zNo (zX "java/lang/IndexOutOfBoundsException" (va_A [(ax, .inr (0, [.ref xt, .ref xp, .ref xs, .ref xl, .ref xb, .ref xk, .ref xm, .ref xq, .ref xg, .ref xf, .ref xe, .int 49]))] sz)) 1 6 (va_A [(ax, .inr (0, [.ref xt, .ref xp, .ref xs, .ref xl, .ref xb, .ref xk, .ref xm, .ref xq, .ref xg, .ref xf, .ref xe, .int 49]))] sz) := by
  refine vx_ofW (cc := cX11_counts) (maxL := 4) (ret := (some .boolean)) (by decide) rfl ?_
  intro p e s m args below meth c s₁ B hml hno hv
  obtain ⟨rfl, hsz, hP, hK, hD0, hT, hE⟩ := hv
  have hx := B.exec
  have hb := B.bytes
  have hr := B.returns
  have hw := wz_hw (atoms_spec (ws := wz yX11_counts cX11_counts 4 (some .boolean)) B.pre)
  have hown : s.vm.findClass "KindredBooks" = some m.cls := findClass_of_methodNamed B.named
  have hlocks := B.notSynchronized
  have hn := hT.1.use (args := ([.ref ax, .int b, .int y0] : List Value).toArray)
  subst hsz
  have hD := hD0.self (sz := s.heap.size)
  generalize hAe : va_A [(ax, .inr (0, [.ref xt, .ref xp, .ref xs, .ref xl, .ref xb, .ref xk, .ref xm, .ref xq, .ref xg, .ref xf, .ref xe, .int 49]))] s.heap.size = A at hD hE ⊢
  have hA : ∀ q : Nat, s.heap.size ≤ q → A q := fun q h => by rw [← hAe]; exact Or.inr h
  have hS : va_S A s.heap s.heap [] := va_S.rf
  replace hP : va_P D zcl [(ax, .inr (0, [.ref xt, .ref xp, .ref xs, .ref xl, .ref xb, .ref xk, .ref xm, .ref xq, .ref xg, .ref xf, .ref xe, .int 49]))] s.heap := hP
  have hl := lv_entry ([.ref ax, .int b, .int y0]) (n := 4) (Nat.le_of_ble_eq_true rfl)
  rw [lg_entry_eq]
  generalize (lg_sl ([.ref ax, .int b, .int y0]) ++ List.replicate (4 - (lg_sl ([.ref ax, .int b, .int y0])).length) Slot.unset).toArray = ls at hl ⊢
  replace hl : lv_has ls 4 [(0, .ref ax), (1, .int b), (2, .int y0)] := hl
  refine lv_aload_n hx hb dX11_counts_0 rfl (lv_at hl 0 rfl) ?_
  refine lv_iload_n hx hb dX11_counts_1 rfl (lv_at hl 1 rfl) ?_
  have hPc := hP.sub (ws' := []) [] rfl
  have hDc := hD.sub (ws' := []) [] (by decide) rfl
  have hFc := va_free (wc := []) hD hS hA [] rfl
  refine zx_call (E0 := "java/lang/IndexOutOfBoundsException") (vx_runV (As := [.int b]) (rest := []) ⟨hx, hb, hml, hown, hw⟩ (c_bookOf_no l D dA dZ _ hfl ax b hz) (z_cwV 1 hw mw_603 mw_605 ms_3 mw_1 mw_606 rfl rfl (by decide +kernel) ⟨Nat.le_of_ble_eq_true rfl, Nat.le_of_ble_eq_true rfl⟩) (zPreV hPc hK hDc hT hE hS hFc (va_recv hK hP (ci := 0) (q0 := 0) rfl rfl)) rfl rfl hl.1 rfl (lv_room (Nat.le_of_ble_eq_true rfl)) dX11_counts_2 ⟨Nat.le_of_ble_eq_true rfl, Nat.le_of_ble_eq_true rfl⟩) hS (fun q _ h => hFc q h) hFc (fun ce q9 H1 locs hz1 hk1 hS hce hcv hcl => ?_)
  exact vx_out (fun x hx => (hno x hx).elim) hlocks hce hcv hcl (fun t ht ha => zX_at hS ht) hS.2.2 (Nat.le_of_ble_eq_true rfl) (Nat.le_of_ble_eq_true rfl)
set_option maxHeartbeats 4000000 in
set_option maxRecDepth 100000 in
/-- stands: no such book -/
theorem c_stands_bad (l : Launch) (D : va_G) (dA : Nat → ClassId) (dZ : Nat → Nat) (sz : Nat) (hfl : l.stackTraces = false) (ax : Nat) (xt : Nat) (xp : Nat) (xs : Nat) (xl : Nat) (xb : Nat) (xk : Nat) (xm : Nat) (xq : Nat) (xg : Nat) (xf : Nat) (xe : Nat) (b : Int32) (y0 : Int32) (hz : zbad b) : vx_Met l yX11_stands (wz yX11_stands cX11_stands 4 (some .boolean)) ({ frames := 9, cells := 1, slots := 6, locals := 200 } : Room) (va_Pc [.ref ax, .int b, .int y0] (zP D dA dZ [(ax, .inr (0, [.ref xt, .ref xp, .ref xs, .ref xl, .ref xb, .ref xk, .ref xm, .ref xq, .ref xg, .ref xf, .ref xe, .int 49]))] sz)) zNo (zX "java/lang/IndexOutOfBoundsException" (va_A [(ax, .inr (0, [.ref xt, .ref xp, .ref xs, .ref xl, .ref xb, .ref xk, .ref xm, .ref xq, .ref xg, .ref xf, .ref xe, .int 49]))] sz)) 1 6 (va_A [(ax, .inr (0, [.ref xt, .ref xp, .ref xs, .ref xl, .ref xb, .ref xk, .ref xm, .ref xq, .ref xg, .ref xf, .ref xe, .int 49]))] sz) := by
  refine vx_ofW (cc := cX11_stands) (maxL := 4) (ret := (some .boolean)) (by decide) rfl ?_
  intro p e s m args below meth c s₁ B hml hno hv
  obtain ⟨rfl, hsz, hP, hK, hD0, hT, hE⟩ := hv
  have hx := B.exec
  have hb := B.bytes
  have hr := B.returns
  have hw := wz_hw (atoms_spec (ws := wz yX11_stands cX11_stands 4 (some .boolean)) B.pre)
  have hown : s.vm.findClass "KindredBooks" = some m.cls := findClass_of_methodNamed B.named
  have hlocks := B.notSynchronized
  have hn := hT.1.use (args := ([.ref ax, .int b, .int y0] : List Value).toArray)
  subst hsz
  have hD := hD0.self (sz := s.heap.size)
  generalize hAe : va_A [(ax, .inr (0, [.ref xt, .ref xp, .ref xs, .ref xl, .ref xb, .ref xk, .ref xm, .ref xq, .ref xg, .ref xf, .ref xe, .int 49]))] s.heap.size = A at hD hE ⊢
  have hA : ∀ q : Nat, s.heap.size ≤ q → A q := fun q h => by rw [← hAe]; exact Or.inr h
  have hS : va_S A s.heap s.heap [] := va_S.rf
  replace hP : va_P D zcl [(ax, .inr (0, [.ref xt, .ref xp, .ref xs, .ref xl, .ref xb, .ref xk, .ref xm, .ref xq, .ref xg, .ref xf, .ref xe, .int 49]))] s.heap := hP
  have hl := lv_entry ([.ref ax, .int b, .int y0]) (n := 4) (Nat.le_of_ble_eq_true rfl)
  rw [lg_entry_eq]
  generalize (lg_sl ([.ref ax, .int b, .int y0]) ++ List.replicate (4 - (lg_sl ([.ref ax, .int b, .int y0])).length) Slot.unset).toArray = ls at hl ⊢
  replace hl : lv_has ls 4 [(0, .ref ax), (1, .int b), (2, .int y0)] := hl
  refine lv_aload_n hx hb dX11_stands_0 rfl (lv_at hl 0 rfl) ?_
  refine lv_iload_n hx hb dX11_stands_1 rfl (lv_at hl 1 rfl) ?_
  have hPc := hP.sub (ws' := []) [] rfl
  have hDc := hD.sub (ws' := []) [] (by decide) rfl
  have hFc := va_free (wc := []) hD hS hA [] rfl
  refine zx_call (E0 := "java/lang/IndexOutOfBoundsException") (vx_runV (As := [.int b]) (rest := []) ⟨hx, hb, hml, hown, hw⟩ (c_bookOf_no l D dA dZ _ hfl ax b hz) (z_cwV 1 hw mw_603 mw_605 ms_3 mw_1 mw_606 rfl rfl (by decide +kernel) ⟨Nat.le_of_ble_eq_true rfl, Nat.le_of_ble_eq_true rfl⟩) (zPreV hPc hK hDc hT hE hS hFc (va_recv hK hP (ci := 0) (q0 := 0) rfl rfl)) rfl rfl hl.1 rfl (lv_room (Nat.le_of_ble_eq_true rfl)) dX11_stands_2 ⟨Nat.le_of_ble_eq_true rfl, Nat.le_of_ble_eq_true rfl⟩) hS (fun q _ h => hFc q h) hFc (fun ce q9 H1 locs hz1 hk1 hS hce hcv hcl => ?_)
  exact vx_out (fun x hx => (hno x hx).elim) hlocks hce hcv hcl (fun t ht ha => zX_at hS ht) hS.2.2 (Nat.le_of_ble_eq_true rfl) (Nat.le_of_ble_eq_true rfl)
set_option maxHeartbeats 4000000 in
set_option maxRecDepth 100000 in
/-- holds: no such book -/
theorem c_holds_bad (l : Launch) (D : va_G) (dA : Nat → ClassId) (dZ : Nat → Nat) (sz : Nat) (hfl : l.stackTraces = false) (ax : Nat) (xt : Nat) (xp : Nat) (xs : Nat) (xl : Nat) (xb : Nat) (xk : Nat) (xm : Nat) (xq : Nat) (xg : Nat) (xf : Nat) (xe : Nat) (b : Int32) (y0 : Int32) (hz : zbad b) : vx_Met l yX11_holds (wz yX11_holds cX11_holds 4 (some .boolean)) ({ frames := 9, cells := 1, slots := 6, locals := 200 } : Room) (va_Pc [.ref ax, .int b, .int y0] (zP D dA dZ [(ax, .inr (0, [.ref xt, .ref xp, .ref xs, .ref xl, .ref xb, .ref xk, .ref xm, .ref xq, .ref xg, .ref xf, .ref xe, .int 49]))] sz)) zNo (zX "java/lang/IndexOutOfBoundsException" (va_A [(ax, .inr (0, [.ref xt, .ref xp, .ref xs, .ref xl, .ref xb, .ref xk, .ref xm, .ref xq, .ref xg, .ref xf, .ref xe, .int 49]))] sz)) 1 6 (va_A [(ax, .inr (0, [.ref xt, .ref xp, .ref xs, .ref xl, .ref xb, .ref xk, .ref xm, .ref xq, .ref xg, .ref xf, .ref xe, .int 49]))] sz) := by
  refine vx_ofW (cc := cX11_holds) (maxL := 4) (ret := (some .boolean)) (by decide) rfl ?_
  intro p e s m args below meth c s₁ B hml hno hv
  obtain ⟨rfl, hsz, hP, hK, hD0, hT, hE⟩ := hv
  have hx := B.exec
  have hb := B.bytes
  have hr := B.returns
  have hw := wz_hw (atoms_spec (ws := wz yX11_holds cX11_holds 4 (some .boolean)) B.pre)
  have hown : s.vm.findClass "KindredBooks" = some m.cls := findClass_of_methodNamed B.named
  have hlocks := B.notSynchronized
  have hn := hT.1.use (args := ([.ref ax, .int b, .int y0] : List Value).toArray)
  subst hsz
  have hD := hD0.self (sz := s.heap.size)
  generalize hAe : va_A [(ax, .inr (0, [.ref xt, .ref xp, .ref xs, .ref xl, .ref xb, .ref xk, .ref xm, .ref xq, .ref xg, .ref xf, .ref xe, .int 49]))] s.heap.size = A at hD hE ⊢
  have hA : ∀ q : Nat, s.heap.size ≤ q → A q := fun q h => by rw [← hAe]; exact Or.inr h
  have hS : va_S A s.heap s.heap [] := va_S.rf
  replace hP : va_P D zcl [(ax, .inr (0, [.ref xt, .ref xp, .ref xs, .ref xl, .ref xb, .ref xk, .ref xm, .ref xq, .ref xg, .ref xf, .ref xe, .int 49]))] s.heap := hP
  have hl := lv_entry ([.ref ax, .int b, .int y0]) (n := 4) (Nat.le_of_ble_eq_true rfl)
  rw [lg_entry_eq]
  generalize (lg_sl ([.ref ax, .int b, .int y0]) ++ List.replicate (4 - (lg_sl ([.ref ax, .int b, .int y0])).length) Slot.unset).toArray = ls at hl ⊢
  replace hl : lv_has ls 4 [(0, .ref ax), (1, .int b), (2, .int y0)] := hl
  refine lv_aload_n hx hb dX11_holds_0 rfl (lv_at hl 0 rfl) ?_
  refine lv_iload_n hx hb dX11_holds_1 rfl (lv_at hl 1 rfl) ?_
  have hPc := hP.sub (ws' := []) [] rfl
  have hDc := hD.sub (ws' := []) [] (by decide) rfl
  have hFc := va_free (wc := []) hD hS hA [] rfl
  refine zx_call (E0 := "java/lang/IndexOutOfBoundsException") (vx_runV (As := [.int b]) (rest := []) ⟨hx, hb, hml, hown, hw⟩ (c_kinOf_no l D dA dZ _ hfl ax b hz) (z_cwV 1 hw mw_863 mw_865 ms_17 mw_1 mw_866 rfl rfl (by decide +kernel) ⟨Nat.le_of_ble_eq_true rfl, Nat.le_of_ble_eq_true rfl⟩) (zPreV hPc hK hDc hT hE hS hFc (va_recv hK hP (ci := 0) (q0 := 0) rfl rfl)) rfl rfl hl.1 rfl (lv_room (Nat.le_of_ble_eq_true rfl)) dX11_holds_2 ⟨Nat.le_of_ble_eq_true rfl, Nat.le_of_ble_eq_true rfl⟩) hS (fun q _ h => hFc q h) hFc (fun ce q9 H1 locs hz1 hk1 hS hce hcv hcl => ?_)
  exact vx_out (fun x hx => (hno x hx).elim) hlocks hce hcv hcl (fun t ht ha => zX_at hS ht) hS.2.2 (Nat.le_of_ble_eq_true rfl) (Nat.le_of_ble_eq_true rfl)
set_option maxHeartbeats 4000000 in
set_option maxRecDepth 100000 in
/-- groupAt: no such book -/
theorem c_groupAt_bad (l : Launch) (D : va_G) (dA : Nat → ClassId) (dZ : Nat → Nat) (sz : Nat) (hfl : l.stackTraces = false) (ax : Nat) (xt : Nat) (xp : Nat) (xs : Nat) (xl : Nat) (xb : Nat) (xk : Nat) (xm : Nat) (xq : Nat) (xg : Nat) (xf : Nat) (xe : Nat) (b : Int32) (y0 : Int32) (hz : zbad b) : vx_Met l yX11_groupAt (wz yX11_groupAt cX11_groupAt 4 (some .int)) ({ frames := 9, cells := 1, slots := 6, locals := 200 } : Room) (va_Pc [.ref ax, .int b, .int y0] (zP D dA dZ [(ax, .inr (0, [.ref xt, .ref xp, .ref xs, .ref xl, .ref xb, .ref xk, .ref xm, .ref xq, .ref xg, .ref xf, .ref xe, .int 49]))] sz)) zNo (zX "java/lang/IndexOutOfBoundsException" (va_A [(ax, .inr (0, [.ref xt, .ref xp, .ref xs, .ref xl, .ref xb, .ref xk, .ref xm, .ref xq, .ref xg, .ref xf, .ref xe, .int 49]))] sz)) 1 6 (va_A [(ax, .inr (0, [.ref xt, .ref xp, .ref xs, .ref xl, .ref xb, .ref xk, .ref xm, .ref xq, .ref xg, .ref xf, .ref xe, .int 49]))] sz) := by
  refine vx_ofW (cc := cX11_groupAt) (maxL := 4) (ret := (some .int)) (by decide) rfl ?_
  intro p e s m args below meth c s₁ B hml hno hv
  obtain ⟨rfl, hsz, hP, hK, hD0, hT, hE⟩ := hv
  have hx := B.exec
  have hb := B.bytes
  have hr := B.returns
  have hw := wz_hw (atoms_spec (ws := wz yX11_groupAt cX11_groupAt 4 (some .int)) B.pre)
  have hown : s.vm.findClass "KindredBooks" = some m.cls := findClass_of_methodNamed B.named
  have hlocks := B.notSynchronized
  have hn := hT.1.use (args := ([.ref ax, .int b, .int y0] : List Value).toArray)
  subst hsz
  have hD := hD0.self (sz := s.heap.size)
  generalize hAe : va_A [(ax, .inr (0, [.ref xt, .ref xp, .ref xs, .ref xl, .ref xb, .ref xk, .ref xm, .ref xq, .ref xg, .ref xf, .ref xe, .int 49]))] s.heap.size = A at hD hE ⊢
  have hA : ∀ q : Nat, s.heap.size ≤ q → A q := fun q h => by rw [← hAe]; exact Or.inr h
  have hS : va_S A s.heap s.heap [] := va_S.rf
  replace hP : va_P D zcl [(ax, .inr (0, [.ref xt, .ref xp, .ref xs, .ref xl, .ref xb, .ref xk, .ref xm, .ref xq, .ref xg, .ref xf, .ref xe, .int 49]))] s.heap := hP
  have hl := lv_entry ([.ref ax, .int b, .int y0]) (n := 4) (Nat.le_of_ble_eq_true rfl)
  rw [lg_entry_eq]
  generalize (lg_sl ([.ref ax, .int b, .int y0]) ++ List.replicate (4 - (lg_sl ([.ref ax, .int b, .int y0])).length) Slot.unset).toArray = ls at hl ⊢
  replace hl : lv_has ls 4 [(0, .ref ax), (1, .int b), (2, .int y0)] := hl
  refine lv_aload_n hx hb dX11_groupAt_0 rfl (lv_at hl 0 rfl) ?_
  refine lv_iload_n hx hb dX11_groupAt_1 rfl (lv_at hl 1 rfl) ?_
  have hPc := hP.sub (ws' := []) [] rfl
  have hDc := hD.sub (ws' := []) [] (by decide) rfl
  have hFc := va_free (wc := []) hD hS hA [] rfl
  refine zx_call (E0 := "java/lang/IndexOutOfBoundsException") (vx_runV (As := [.int b]) (rest := []) ⟨hx, hb, hml, hown, hw⟩ (c_kinOf_no l D dA dZ _ hfl ax b hz) (z_cwV 1 hw mw_863 mw_865 ms_17 mw_1 mw_866 rfl rfl (by decide +kernel) ⟨Nat.le_of_ble_eq_true rfl, Nat.le_of_ble_eq_true rfl⟩) (zPreV hPc hK hDc hT hE hS hFc (va_recv hK hP (ci := 0) (q0 := 0) rfl rfl)) rfl rfl hl.1 rfl (lv_room (Nat.le_of_ble_eq_true rfl)) dX11_groupAt_2 ⟨Nat.le_of_ble_eq_true rfl, Nat.le_of_ble_eq_true rfl⟩) hS (fun q _ h => hFc q h) hFc (fun ce q9 H1 locs hz1 hk1 hS hce hcv hcl => ?_)
  exact vx_out (fun x hx => (hno x hx).elim) hlocks hce hcv hcl (fun t ht ha => zX_at hS ht) hS.2.2 (Nat.le_of_ble_eq_true rfl) (Nat.le_of_ble_eq_true rfl)
set_option maxHeartbeats 4000000 in
set_option maxRecDepth 100000 in
/-- groupOf: no such book -/
theorem c_groupOf_bad (l : Launch) (D : va_G) (dA : Nat → ClassId) (dZ : Nat → Nat) (sz : Nat) (hfl : l.stackTraces = false) (ax : Nat) (xt : Nat) (xp : Nat) (xs : Nat) (xl : Nat) (xb : Nat) (xk : Nat) (xm : Nat) (xq : Nat) (xg : Nat) (xf : Nat) (xe : Nat) (b : Int32) (y0 : Int32) (hz : zbad b) : vx_Met l yX11_groupOf (wz yX11_groupOf cX11_groupOf 4 (some .int)) ({ frames := 9, cells := 1, slots := 6, locals := 200 } : Room) (va_Pc [.ref ax, .int b, .int y0] (zP D dA dZ [(ax, .inr (0, [.ref xt, .ref xp, .ref xs, .ref xl, .ref xb, .ref xk, .ref xm, .ref xq, .ref xg, .ref xf, .ref xe, .int 49]))] sz)) zNo (zX "java/lang/IndexOutOfBoundsException" (va_A [(ax, .inr (0, [.ref xt, .ref xp, .ref xs, .ref xl, .ref xb, .ref xk, .ref xm, .ref xq, .ref xg, .ref xf, .ref xe, .int 49]))] sz)) 1 6 (va_A [(ax, .inr (0, [.ref xt, .ref xp, .ref xs, .ref xl, .ref xb, .ref xk, .ref xm, .ref xq, .ref xg, .ref xf, .ref xe, .int 49]))] sz) := by
  refine vx_ofW (cc := cX11_groupOf) (maxL := 4) (ret := (some .int)) (by decide) rfl ?_
  intro p e s m args below meth c s₁ B hml hno hv
  obtain ⟨rfl, hsz, hP, hK, hD0, hT, hE⟩ := hv
  have hx := B.exec
  have hb := B.bytes
  have hr := B.returns
  have hw := wz_hw (atoms_spec (ws := wz yX11_groupOf cX11_groupOf 4 (some .int)) B.pre)
  have hown : s.vm.findClass "KindredBooks" = some m.cls := findClass_of_methodNamed B.named
  have hlocks := B.notSynchronized
  have hn := hT.1.use (args := ([.ref ax, .int b, .int y0] : List Value).toArray)
  subst hsz
  have hD := hD0.self (sz := s.heap.size)
  generalize hAe : va_A [(ax, .inr (0, [.ref xt, .ref xp, .ref xs, .ref xl, .ref xb, .ref xk, .ref xm, .ref xq, .ref xg, .ref xf, .ref xe, .int 49]))] s.heap.size = A at hD hE ⊢
  have hA : ∀ q : Nat, s.heap.size ≤ q → A q := fun q h => by rw [← hAe]; exact Or.inr h
  have hS : va_S A s.heap s.heap [] := va_S.rf
  replace hP : va_P D zcl [(ax, .inr (0, [.ref xt, .ref xp, .ref xs, .ref xl, .ref xb, .ref xk, .ref xm, .ref xq, .ref xg, .ref xf, .ref xe, .int 49]))] s.heap := hP
  have hl := lv_entry ([.ref ax, .int b, .int y0]) (n := 4) (Nat.le_of_ble_eq_true rfl)
  rw [lg_entry_eq]
  generalize (lg_sl ([.ref ax, .int b, .int y0]) ++ List.replicate (4 - (lg_sl ([.ref ax, .int b, .int y0])).length) Slot.unset).toArray = ls at hl ⊢
  replace hl : lv_has ls 4 [(0, .ref ax), (1, .int b), (2, .int y0)] := hl
  refine lv_aload_n hx hb dX11_groupOf_0 rfl (lv_at hl 0 rfl) ?_
  refine lv_iload_n hx hb dX11_groupOf_1 rfl (lv_at hl 1 rfl) ?_
  have hPc := hP.sub (ws' := []) [] rfl
  have hDc := hD.sub (ws' := []) [] (by decide) rfl
  have hFc := va_free (wc := []) hD hS hA [] rfl
  refine zx_call (E0 := "java/lang/IndexOutOfBoundsException") (vx_runV (As := [.int b]) (rest := []) ⟨hx, hb, hml, hown, hw⟩ (c_kinOf_no l D dA dZ _ hfl ax b hz) (z_cwV 1 hw mw_863 mw_865 ms_17 mw_1 mw_866 rfl rfl (by decide +kernel) ⟨Nat.le_of_ble_eq_true rfl, Nat.le_of_ble_eq_true rfl⟩) (zPreV hPc hK hDc hT hE hS hFc (va_recv hK hP (ci := 0) (q0 := 0) rfl rfl)) rfl rfl hl.1 rfl (lv_room (Nat.le_of_ble_eq_true rfl)) dX11_groupOf_2 ⟨Nat.le_of_ble_eq_true rfl, Nat.le_of_ble_eq_true rfl⟩) hS (fun q _ h => hFc q h) hFc (fun ce q9 H1 locs hz1 hk1 hS hce hcv hcl => ?_)
  exact vx_out (fun x hx => (hno x hx).elim) hlocks hce hcv hcl (fun t ht ha => zX_at hS ht) hS.2.2 (Nat.le_of_ble_eq_true rfl) (Nat.le_of_ble_eq_true rfl)
set_option maxHeartbeats 4000000 in
set_option maxRecDepth 100000 in
/-- sizeOf: no such book -/
theorem c_sizeOf_bad (l : Launch) (D : va_G) (dA : Nat → ClassId) (dZ : Nat → Nat) (sz : Nat) (hfl : l.stackTraces = false) (ax : Nat) (xt : Nat) (xp : Nat) (xs : Nat) (xl : Nat) (xb : Nat) (xk : Nat) (xm : Nat) (xq : Nat) (xg : Nat) (xf : Nat) (xe : Nat) (b : Int32) (y0 : Int32) (hz : zbad b) : vx_Met l yX11_sizeOf (wz yX11_sizeOf cX11_sizeOf 4 (some .int)) ({ frames := 9, cells := 1, slots := 6, locals := 200 } : Room) (va_Pc [.ref ax, .int b, .int y0] (zP D dA dZ [(ax, .inr (0, [.ref xt, .ref xp, .ref xs, .ref xl, .ref xb, .ref xk, .ref xm, .ref xq, .ref xg, .ref xf, .ref xe, .int 49]))] sz)) zNo (zX "java/lang/IndexOutOfBoundsException" (va_A [(ax, .inr (0, [.ref xt, .ref xp, .ref xs, .ref xl, .ref xb, .ref xk, .ref xm, .ref xq, .ref xg, .ref xf, .ref xe, .int 49]))] sz)) 1 6 (va_A [(ax, .inr (0, [.ref xt, .ref xp, .ref xs, .ref xl, .ref xb, .ref xk, .ref xm, .ref xq, .ref xg, .ref xf, .ref xe, .int 49]))] sz) := by
  refine vx_ofW (cc := cX11_sizeOf) (maxL := 4) (ret := (some .int)) (by decide) rfl ?_
  intro p e s m args below meth c s₁ B hml hno hv
  obtain ⟨rfl, hsz, hP, hK, hD0, hT, hE⟩ := hv
  have hx := B.exec
  have hb := B.bytes
  have hr := B.returns
  have hw := wz_hw (atoms_spec (ws := wz yX11_sizeOf cX11_sizeOf 4 (some .int)) B.pre)
  have hown : s.vm.findClass "KindredBooks" = some m.cls := findClass_of_methodNamed B.named
  have hlocks := B.notSynchronized
  have hn := hT.1.use (args := ([.ref ax, .int b, .int y0] : List Value).toArray)
  subst hsz
  have hD := hD0.self (sz := s.heap.size)
  generalize hAe : va_A [(ax, .inr (0, [.ref xt, .ref xp, .ref xs, .ref xl, .ref xb, .ref xk, .ref xm, .ref xq, .ref xg, .ref xf, .ref xe, .int 49]))] s.heap.size = A at hD hE ⊢
  have hA : ∀ q : Nat, s.heap.size ≤ q → A q := fun q h => by rw [← hAe]; exact Or.inr h
  have hS : va_S A s.heap s.heap [] := va_S.rf
  replace hP : va_P D zcl [(ax, .inr (0, [.ref xt, .ref xp, .ref xs, .ref xl, .ref xb, .ref xk, .ref xm, .ref xq, .ref xg, .ref xf, .ref xe, .int 49]))] s.heap := hP
  have hl := lv_entry ([.ref ax, .int b, .int y0]) (n := 4) (Nat.le_of_ble_eq_true rfl)
  rw [lg_entry_eq]
  generalize (lg_sl ([.ref ax, .int b, .int y0]) ++ List.replicate (4 - (lg_sl ([.ref ax, .int b, .int y0])).length) Slot.unset).toArray = ls at hl ⊢
  replace hl : lv_has ls 4 [(0, .ref ax), (1, .int b), (2, .int y0)] := hl
  refine lv_aload_n hx hb dX11_sizeOf_0 rfl (lv_at hl 0 rfl) ?_
  refine lv_iload_n hx hb dX11_sizeOf_1 rfl (lv_at hl 1 rfl) ?_
  have hPc := hP.sub (ws' := []) [] rfl
  have hDc := hD.sub (ws' := []) [] (by decide) rfl
  have hFc := va_free (wc := []) hD hS hA [] rfl
  refine zx_call (E0 := "java/lang/IndexOutOfBoundsException") (vx_runV (As := [.int b]) (rest := []) ⟨hx, hb, hml, hown, hw⟩ (c_kinOf_no l D dA dZ _ hfl ax b hz) (z_cwV 1 hw mw_863 mw_865 ms_17 mw_1 mw_866 rfl rfl (by decide +kernel) ⟨Nat.le_of_ble_eq_true rfl, Nat.le_of_ble_eq_true rfl⟩) (zPreV hPc hK hDc hT hE hS hFc (va_recv hK hP (ci := 0) (q0 := 0) rfl rfl)) rfl rfl hl.1 rfl (lv_room (Nat.le_of_ble_eq_true rfl)) dX11_sizeOf_2 ⟨Nat.le_of_ble_eq_true rfl, Nat.le_of_ble_eq_true rfl⟩) hS (fun q _ h => hFc q h) hFc (fun ce q9 H1 locs hz1 hk1 hS hce hcv hcl => ?_)
  exact vx_out (fun x hx => (hno x hx).elim) hlocks hce hcv hcl (fun t ht ha => zX_at hS ht) hS.2.2 (Nat.le_of_ble_eq_true rfl) (Nat.le_of_ble_eq_true rfl)
set_option maxHeartbeats 4000000 in
set_option maxRecDepth 100000 in
/-- path: no such book -/
theorem c_path_bad (l : Launch) (D : va_G) (dA : Nat → ClassId) (dZ : Nat → Nat) (sz : Nat) (hfl : l.stackTraces = false) (ax : Nat) (xt : Nat) (xp : Nat) (xs : Nat) (xl : Nat) (xb : Nat) (xk : Nat) (xm : Nat) (xq : Nat) (xg : Nat) (xf : Nat) (xe : Nat) (b : Int32) (y0 : Int32) (y1 : Int32) (y2 : Int32) (hz : zbad b) : vx_Met l yX11_path (wz yX11_path cX11_path 7 (some .int)) ({ frames := 9, cells := 1, slots := 6, locals := 200 } : Room) (va_Pc [.ref ax, .int b, .int y0, .int y1, .int y2] (zP D dA dZ [(ax, .inr (0, [.ref xt, .ref xp, .ref xs, .ref xl, .ref xb, .ref xk, .ref xm, .ref xq, .ref xg, .ref xf, .ref xe, .int 49]))] sz)) zNo (zX "java/lang/IndexOutOfBoundsException" (va_A [(ax, .inr (0, [.ref xt, .ref xp, .ref xs, .ref xl, .ref xb, .ref xk, .ref xm, .ref xq, .ref xg, .ref xf, .ref xe, .int 49]))] sz)) 1 6 (va_A [(ax, .inr (0, [.ref xt, .ref xp, .ref xs, .ref xl, .ref xb, .ref xk, .ref xm, .ref xq, .ref xg, .ref xf, .ref xe, .int 49]))] sz) := by
  refine vx_ofW (cc := cX11_path) (maxL := 7) (ret := (some .int)) (by decide) rfl ?_
  intro p e s m args below meth c s₁ B hml hno hv
  obtain ⟨rfl, hsz, hP, hK, hD0, hT, hE⟩ := hv
  have hx := B.exec
  have hb := B.bytes
  have hr := B.returns
  have hw := wz_hw (atoms_spec (ws := wz yX11_path cX11_path 7 (some .int)) B.pre)
  have hown : s.vm.findClass "KindredBooks" = some m.cls := findClass_of_methodNamed B.named
  have hlocks := B.notSynchronized
  have hn := hT.1.use (args := ([.ref ax, .int b, .int y0, .int y1, .int y2] : List Value).toArray)
  subst hsz
  have hD := hD0.self (sz := s.heap.size)
  generalize hAe : va_A [(ax, .inr (0, [.ref xt, .ref xp, .ref xs, .ref xl, .ref xb, .ref xk, .ref xm, .ref xq, .ref xg, .ref xf, .ref xe, .int 49]))] s.heap.size = A at hD hE ⊢
  have hA : ∀ q : Nat, s.heap.size ≤ q → A q := fun q h => by rw [← hAe]; exact Or.inr h
  have hS : va_S A s.heap s.heap [] := va_S.rf
  replace hP : va_P D zcl [(ax, .inr (0, [.ref xt, .ref xp, .ref xs, .ref xl, .ref xb, .ref xk, .ref xm, .ref xq, .ref xg, .ref xf, .ref xe, .int 49]))] s.heap := hP
  have hl := lv_entry ([.ref ax, .int b, .int y0, .int y1, .int y2]) (n := 7) (Nat.le_of_ble_eq_true rfl)
  rw [lg_entry_eq]
  generalize (lg_sl ([.ref ax, .int b, .int y0, .int y1, .int y2]) ++ List.replicate (7 - (lg_sl ([.ref ax, .int b, .int y0, .int y1, .int y2])).length) Slot.unset).toArray = ls at hl ⊢
  replace hl : lv_has ls 7 [(0, .ref ax), (1, .int b), (2, .int y0), (3, .int y1), (4, .int y2)] := hl
  refine lv_aload_n hx hb dX11_path_0 rfl (lv_at hl 0 rfl) ?_
  refine lv_iload_n hx hb dX11_path_1 rfl (lv_at hl 1 rfl) ?_
  have hPc := hP.sub (ws' := []) [] rfl
  have hDc := hD.sub (ws' := []) [] (by decide) rfl
  have hFc := va_free (wc := []) hD hS hA [] rfl
  refine zx_call (E0 := "java/lang/IndexOutOfBoundsException") (vx_runV (As := [.int b]) (rest := []) ⟨hx, hb, hml, hown, hw⟩ (c_kinOf_no l D dA dZ _ hfl ax b hz) (z_cwV 1 hw mw_863 mw_865 ms_17 mw_1 mw_866 rfl rfl (by decide +kernel) ⟨Nat.le_of_ble_eq_true rfl, Nat.le_of_ble_eq_true rfl⟩) (zPreV hPc hK hDc hT hE hS hFc (va_recv hK hP (ci := 0) (q0 := 0) rfl rfl)) rfl rfl hl.1 rfl (lv_room (Nat.le_of_ble_eq_true rfl)) dX11_path_2 ⟨Nat.le_of_ble_eq_true rfl, Nat.le_of_ble_eq_true rfl⟩) hS (fun q _ h => hFc q h) hFc (fun ce q9 H1 locs hz1 hk1 hS hce hcv hcl => ?_)
  exact vx_out (fun x hx => (hno x hx).elim) hlocks hce hcv hcl (fun t ht ha => zX_at hS ht) hS.2.2 (Nat.le_of_ble_eq_true rfl) (Nat.le_of_ble_eq_true rfl)
set_option maxHeartbeats 4000000 in
set_option maxRecDepth 100000 in
/-- forbids: no such book -/
theorem c_forbids_bad (l : Launch) (D : va_G) (dA : Nat → ClassId) (dZ : Nat → Nat) (sz : Nat) (hfl : l.stackTraces = false) (ax : Nat) (xt : Nat) (xp : Nat) (xs : Nat) (xl : Nat) (xb : Nat) (xk : Nat) (xm : Nat) (xq : Nat) (xg : Nat) (xf : Nat) (xe : Nat) (b : Int32) (y0 : Int32) (y1 : Int32) (hz : zbad b) : vx_Met l yX11_forbids (wz yX11_forbids cX11_forbids 5 (some .int)) ({ frames := 9, cells := 1, slots := 6, locals := 200 } : Room) (va_Pc [.ref ax, .int b, .int y0, .int y1] (zP D dA dZ [(ax, .inr (0, [.ref xt, .ref xp, .ref xs, .ref xl, .ref xb, .ref xk, .ref xm, .ref xq, .ref xg, .ref xf, .ref xe, .int 49]))] sz)) zNo (zX "java/lang/IndexOutOfBoundsException" (va_A [(ax, .inr (0, [.ref xt, .ref xp, .ref xs, .ref xl, .ref xb, .ref xk, .ref xm, .ref xq, .ref xg, .ref xf, .ref xe, .int 49]))] sz)) 1 6 (va_A [(ax, .inr (0, [.ref xt, .ref xp, .ref xs, .ref xl, .ref xb, .ref xk, .ref xm, .ref xq, .ref xg, .ref xf, .ref xe, .int 49]))] sz) := by
  refine vx_ofW (cc := cX11_forbids) (maxL := 5) (ret := (some .int)) (by decide) rfl ?_
  intro p e s m args below meth c s₁ B hml hno hv
  obtain ⟨rfl, hsz, hP, hK, hD0, hT, hE⟩ := hv
  have hx := B.exec
  have hb := B.bytes
  have hr := B.returns
  have hw := wz_hw (atoms_spec (ws := wz yX11_forbids cX11_forbids 5 (some .int)) B.pre)
  have hown : s.vm.findClass "KindredBooks" = some m.cls := findClass_of_methodNamed B.named
  have hlocks := B.notSynchronized
  have hn := hT.1.use (args := ([.ref ax, .int b, .int y0, .int y1] : List Value).toArray)
  subst hsz
  have hD := hD0.self (sz := s.heap.size)
  generalize hAe : va_A [(ax, .inr (0, [.ref xt, .ref xp, .ref xs, .ref xl, .ref xb, .ref xk, .ref xm, .ref xq, .ref xg, .ref xf, .ref xe, .int 49]))] s.heap.size = A at hD hE ⊢
  have hA : ∀ q : Nat, s.heap.size ≤ q → A q := fun q h => by rw [← hAe]; exact Or.inr h
  have hS : va_S A s.heap s.heap [] := va_S.rf
  replace hP : va_P D zcl [(ax, .inr (0, [.ref xt, .ref xp, .ref xs, .ref xl, .ref xb, .ref xk, .ref xm, .ref xq, .ref xg, .ref xf, .ref xe, .int 49]))] s.heap := hP
  have hl := lv_entry ([.ref ax, .int b, .int y0, .int y1]) (n := 5) (Nat.le_of_ble_eq_true rfl)
  rw [lg_entry_eq]
  generalize (lg_sl ([.ref ax, .int b, .int y0, .int y1]) ++ List.replicate (5 - (lg_sl ([.ref ax, .int b, .int y0, .int y1])).length) Slot.unset).toArray = ls at hl ⊢
  replace hl : lv_has ls 5 [(0, .ref ax), (1, .int b), (2, .int y0), (3, .int y1)] := hl
  refine lv_aload_n hx hb dX11_forbids_0 rfl (lv_at hl 0 rfl) ?_
  refine lv_iload_n hx hb dX11_forbids_1 rfl (lv_at hl 1 rfl) ?_
  have hPc := hP.sub (ws' := []) [] rfl
  have hDc := hD.sub (ws' := []) [] (by decide) rfl
  have hFc := va_free (wc := []) hD hS hA [] rfl
  refine zx_call (E0 := "java/lang/IndexOutOfBoundsException") (vx_runV (As := [.int b]) (rest := []) ⟨hx, hb, hml, hown, hw⟩ (c_kinOf_no l D dA dZ _ hfl ax b hz) (z_cwV 1 hw mw_863 mw_865 ms_17 mw_1 mw_866 rfl rfl (by decide +kernel) ⟨Nat.le_of_ble_eq_true rfl, Nat.le_of_ble_eq_true rfl⟩) (zPreV hPc hK hDc hT hE hS hFc (va_recv hK hP (ci := 0) (q0 := 0) rfl rfl)) rfl rfl hl.1 rfl (lv_room (Nat.le_of_ble_eq_true rfl)) dX11_forbids_2 ⟨Nat.le_of_ble_eq_true rfl, Nat.le_of_ble_eq_true rfl⟩) hS (fun q _ h => hFc q h) hFc (fun ce q9 H1 locs hz1 hk1 hS hce hcv hcl => ?_)
  exact vx_out (fun x hx => (hno x hx).elim) hlocks hce hcv hcl (fun t ht ha => zX_at hS ht) hS.2.2 (Nat.le_of_ble_eq_true rfl) (Nat.le_of_ble_eq_true rfl)
set_option maxHeartbeats 4000000 in
set_option maxRecDepth 100000 in
/-- shown: no such book -/
theorem c_shown_bad (l : Launch) (D : va_G) (dA : Nat → ClassId) (dZ : Nat → Nat) (sz : Nat) (hfl : l.stackTraces = false) (ax : Nat) (xt : Nat) (xp : Nat) (xs : Nat) (xl : Nat) (xb : Nat) (xk : Nat) (xm : Nat) (xq : Nat) (xg : Nat) (xf : Nat) (xe : Nat) (b : Int32) (y0 : Int32) (y1 : Int32) (hz : zbad b) : vx_Met l yX11_shown (wz yX11_shown cX11_shown 5 (some .int)) ({ frames := 9, cells := 1, slots := 6, locals := 200 } : Room) (va_Pc [.ref ax, .int b, .int y0, .int y1] (zP D dA dZ [(ax, .inr (0, [.ref xt, .ref xp, .ref xs, .ref xl, .ref xb, .ref xk, .ref xm, .ref xq, .ref xg, .ref xf, .ref xe, .int 49]))] sz)) zNo (zX "java/lang/IndexOutOfBoundsException" (va_A [(ax, .inr (0, [.ref xt, .ref xp, .ref xs, .ref xl, .ref xb, .ref xk, .ref xm, .ref xq, .ref xg, .ref xf, .ref xe, .int 49]))] sz)) 1 6 (va_A [(ax, .inr (0, [.ref xt, .ref xp, .ref xs, .ref xl, .ref xb, .ref xk, .ref xm, .ref xq, .ref xg, .ref xf, .ref xe, .int 49]))] sz) := by
  refine vx_ofW (cc := cX11_shown) (maxL := 5) (ret := (some .int)) (by decide) rfl ?_
  intro p e s m args below meth c s₁ B hml hno hv
  obtain ⟨rfl, hsz, hP, hK, hD0, hT, hE⟩ := hv
  have hx := B.exec
  have hb := B.bytes
  have hr := B.returns
  have hw := wz_hw (atoms_spec (ws := wz yX11_shown cX11_shown 5 (some .int)) B.pre)
  have hown : s.vm.findClass "KindredBooks" = some m.cls := findClass_of_methodNamed B.named
  have hlocks := B.notSynchronized
  have hn := hT.1.use (args := ([.ref ax, .int b, .int y0, .int y1] : List Value).toArray)
  subst hsz
  have hD := hD0.self (sz := s.heap.size)
  generalize hAe : va_A [(ax, .inr (0, [.ref xt, .ref xp, .ref xs, .ref xl, .ref xb, .ref xk, .ref xm, .ref xq, .ref xg, .ref xf, .ref xe, .int 49]))] s.heap.size = A at hD hE ⊢
  have hA : ∀ q : Nat, s.heap.size ≤ q → A q := fun q h => by rw [← hAe]; exact Or.inr h
  have hS : va_S A s.heap s.heap [] := va_S.rf
  replace hP : va_P D zcl [(ax, .inr (0, [.ref xt, .ref xp, .ref xs, .ref xl, .ref xb, .ref xk, .ref xm, .ref xq, .ref xg, .ref xf, .ref xe, .int 49]))] s.heap := hP
  have hl := lv_entry ([.ref ax, .int b, .int y0, .int y1]) (n := 5) (Nat.le_of_ble_eq_true rfl)
  rw [lg_entry_eq]
  generalize (lg_sl ([.ref ax, .int b, .int y0, .int y1]) ++ List.replicate (5 - (lg_sl ([.ref ax, .int b, .int y0, .int y1])).length) Slot.unset).toArray = ls at hl ⊢
  replace hl : lv_has ls 5 [(0, .ref ax), (1, .int b), (2, .int y0), (3, .int y1)] := hl
  refine lv_aload_n hx hb dX11_shown_0 rfl (lv_at hl 0 rfl) ?_
  refine lv_iload_n hx hb dX11_shown_1 rfl (lv_at hl 1 rfl) ?_
  have hPc := hP.sub (ws' := []) [] rfl
  have hDc := hD.sub (ws' := []) [] (by decide) rfl
  have hFc := va_free (wc := []) hD hS hA [] rfl
  refine zx_call (E0 := "java/lang/IndexOutOfBoundsException") (vx_runV (As := [.int b]) (rest := []) ⟨hx, hb, hml, hown, hw⟩ (c_kinOf_no l D dA dZ _ hfl ax b hz) (z_cwV 1 hw mw_863 mw_865 ms_17 mw_1 mw_866 rfl rfl (by decide +kernel) ⟨Nat.le_of_ble_eq_true rfl, Nat.le_of_ble_eq_true rfl⟩) (zPreV hPc hK hDc hT hE hS hFc (va_recv hK hP (ci := 0) (q0 := 0) rfl rfl)) rfl rfl hl.1 rfl (lv_room (Nat.le_of_ble_eq_true rfl)) dX11_shown_2 ⟨Nat.le_of_ble_eq_true rfl, Nat.le_of_ble_eq_true rfl⟩) hS (fun q _ h => hFc q h) hFc (fun ce q9 H1 locs hz1 hk1 hS hce hcv hcl => ?_)
  exact vx_out (fun x hx => (hno x hx).elim) hlocks hce hcv hcl (fun t ht ha => zX_at hS ht) hS.2.2 (Nat.le_of_ble_eq_true rfl) (Nat.le_of_ble_eq_true rfl)
set_option maxHeartbeats 4000000 in
set_option maxRecDepth 100000 in
/-- shownAt: no such book -/
theorem c_shownAt_bad (l : Launch) (D : va_G) (dA : Nat → ClassId) (dZ : Nat → Nat) (sz : Nat) (hfl : l.stackTraces = false) (ax : Nat) (xt : Nat) (xp : Nat) (xs : Nat) (xl : Nat) (xb : Nat) (xk : Nat) (xm : Nat) (xq : Nat) (xg : Nat) (xf : Nat) (xe : Nat) (b : Int32) (y0 : Int32) (y1 : Int32) (y2 : Int32) (hz : zbad b) : vx_Met l yX11_shownAt (wz yX11_shownAt cX11_shownAt 7 (some .int)) ({ frames := 9, cells := 1, slots := 6, locals := 200 } : Room) (va_Pc [.ref ax, .int b, .int y0, .int y1, .int y2] (zP D dA dZ [(ax, .inr (0, [.ref xt, .ref xp, .ref xs, .ref xl, .ref xb, .ref xk, .ref xm, .ref xq, .ref xg, .ref xf, .ref xe, .int 49]))] sz)) zNo (zX "java/lang/IndexOutOfBoundsException" (va_A [(ax, .inr (0, [.ref xt, .ref xp, .ref xs, .ref xl, .ref xb, .ref xk, .ref xm, .ref xq, .ref xg, .ref xf, .ref xe, .int 49]))] sz)) 1 6 (va_A [(ax, .inr (0, [.ref xt, .ref xp, .ref xs, .ref xl, .ref xb, .ref xk, .ref xm, .ref xq, .ref xg, .ref xf, .ref xe, .int 49]))] sz) := by
  refine vx_ofW (cc := cX11_shownAt) (maxL := 7) (ret := (some .int)) (by decide) rfl ?_
  intro p e s m args below meth c s₁ B hml hno hv
  obtain ⟨rfl, hsz, hP, hK, hD0, hT, hE⟩ := hv
  have hx := B.exec
  have hb := B.bytes
  have hr := B.returns
  have hw := wz_hw (atoms_spec (ws := wz yX11_shownAt cX11_shownAt 7 (some .int)) B.pre)
  have hown : s.vm.findClass "KindredBooks" = some m.cls := findClass_of_methodNamed B.named
  have hlocks := B.notSynchronized
  have hn := hT.1.use (args := ([.ref ax, .int b, .int y0, .int y1, .int y2] : List Value).toArray)
  subst hsz
  have hD := hD0.self (sz := s.heap.size)
  generalize hAe : va_A [(ax, .inr (0, [.ref xt, .ref xp, .ref xs, .ref xl, .ref xb, .ref xk, .ref xm, .ref xq, .ref xg, .ref xf, .ref xe, .int 49]))] s.heap.size = A at hD hE ⊢
  have hA : ∀ q : Nat, s.heap.size ≤ q → A q := fun q h => by rw [← hAe]; exact Or.inr h
  have hS : va_S A s.heap s.heap [] := va_S.rf
  replace hP : va_P D zcl [(ax, .inr (0, [.ref xt, .ref xp, .ref xs, .ref xl, .ref xb, .ref xk, .ref xm, .ref xq, .ref xg, .ref xf, .ref xe, .int 49]))] s.heap := hP
  have hl := lv_entry ([.ref ax, .int b, .int y0, .int y1, .int y2]) (n := 7) (Nat.le_of_ble_eq_true rfl)
  rw [lg_entry_eq]
  generalize (lg_sl ([.ref ax, .int b, .int y0, .int y1, .int y2]) ++ List.replicate (7 - (lg_sl ([.ref ax, .int b, .int y0, .int y1, .int y2])).length) Slot.unset).toArray = ls at hl ⊢
  replace hl : lv_has ls 7 [(0, .ref ax), (1, .int b), (2, .int y0), (3, .int y1), (4, .int y2)] := hl
  refine lv_aload_n hx hb dX11_shownAt_0 rfl (lv_at hl 0 rfl) ?_
  refine lv_iload_n hx hb dX11_shownAt_1 rfl (lv_at hl 1 rfl) ?_
  have hPc := hP.sub (ws' := []) [] rfl
  have hDc := hD.sub (ws' := []) [] (by decide) rfl
  have hFc := va_free (wc := []) hD hS hA [] rfl
  refine zx_call (E0 := "java/lang/IndexOutOfBoundsException") (vx_runV (As := [.int b]) (rest := []) ⟨hx, hb, hml, hown, hw⟩ (c_kinOf_no l D dA dZ _ hfl ax b hz) (z_cwV 1 hw mw_863 mw_865 ms_17 mw_1 mw_866 rfl rfl (by decide +kernel) ⟨Nat.le_of_ble_eq_true rfl, Nat.le_of_ble_eq_true rfl⟩) (zPreV hPc hK hDc hT hE hS hFc (va_recv hK hP (ci := 0) (q0 := 0) rfl rfl)) rfl rfl hl.1 rfl (lv_room (Nat.le_of_ble_eq_true rfl)) dX11_shownAt_2 ⟨Nat.le_of_ble_eq_true rfl, Nat.le_of_ble_eq_true rfl⟩) hS (fun q _ h => hFc q h) hFc (fun ce q9 H1 locs hz1 hk1 hS hce hcv hcl => ?_)
  exact vx_out (fun x hx => (hno x hx).elim) hlocks hce hcv hcl (fun t ht ha => zX_at hS ht) hS.2.2 (Nat.le_of_ble_eq_true rfl) (Nat.le_of_ble_eq_true rfl)
set_option maxHeartbeats 4000000 in
set_option maxRecDepth 100000 in
/-- values: no such book -/
theorem c_values_bad (l : Launch) (D : va_G) (dA : Nat → ClassId) (dZ : Nat → Nat) (sz : Nat) (hfl : l.stackTraces = false) (ax : Nat) (xt : Nat) (xp : Nat) (xs : Nat) (xl : Nat) (xb : Nat) (xk : Nat) (xm : Nat) (xq : Nat) (xg : Nat) (xf : Nat) (xe : Nat) (b : Int32) (y0 : Int32) (y1 : Int32) (hz : zbad b) : vx_Met l yX11_values (wz yX11_values cX11_values 5 (some .int)) ({ frames := 9, cells := 1, slots := 6, locals := 200 } : Room) (va_Pc [.ref ax, .int b, .int y0, .int y1] (zP D dA dZ [(ax, .inr (0, [.ref xt, .ref xp, .ref xs, .ref xl, .ref xb, .ref xk, .ref xm, .ref xq, .ref xg, .ref xf, .ref xe, .int 49]))] sz)) zNo (zX "java/lang/IndexOutOfBoundsException" (va_A [(ax, .inr (0, [.ref xt, .ref xp, .ref xs, .ref xl, .ref xb, .ref xk, .ref xm, .ref xq, .ref xg, .ref xf, .ref xe, .int 49]))] sz)) 1 6 (va_A [(ax, .inr (0, [.ref xt, .ref xp, .ref xs, .ref xl, .ref xb, .ref xk, .ref xm, .ref xq, .ref xg, .ref xf, .ref xe, .int 49]))] sz) := by
  refine vx_ofW (cc := cX11_values) (maxL := 5) (ret := (some .int)) (by decide) rfl ?_
  intro p e s m args below meth c s₁ B hml hno hv
  obtain ⟨rfl, hsz, hP, hK, hD0, hT, hE⟩ := hv
  have hx := B.exec
  have hb := B.bytes
  have hr := B.returns
  have hw := wz_hw (atoms_spec (ws := wz yX11_values cX11_values 5 (some .int)) B.pre)
  have hown : s.vm.findClass "KindredBooks" = some m.cls := findClass_of_methodNamed B.named
  have hlocks := B.notSynchronized
  have hn := hT.1.use (args := ([.ref ax, .int b, .int y0, .int y1] : List Value).toArray)
  subst hsz
  have hD := hD0.self (sz := s.heap.size)
  generalize hAe : va_A [(ax, .inr (0, [.ref xt, .ref xp, .ref xs, .ref xl, .ref xb, .ref xk, .ref xm, .ref xq, .ref xg, .ref xf, .ref xe, .int 49]))] s.heap.size = A at hD hE ⊢
  have hA : ∀ q : Nat, s.heap.size ≤ q → A q := fun q h => by rw [← hAe]; exact Or.inr h
  have hS : va_S A s.heap s.heap [] := va_S.rf
  replace hP : va_P D zcl [(ax, .inr (0, [.ref xt, .ref xp, .ref xs, .ref xl, .ref xb, .ref xk, .ref xm, .ref xq, .ref xg, .ref xf, .ref xe, .int 49]))] s.heap := hP
  have hl := lv_entry ([.ref ax, .int b, .int y0, .int y1]) (n := 5) (Nat.le_of_ble_eq_true rfl)
  rw [lg_entry_eq]
  generalize (lg_sl ([.ref ax, .int b, .int y0, .int y1]) ++ List.replicate (5 - (lg_sl ([.ref ax, .int b, .int y0, .int y1])).length) Slot.unset).toArray = ls at hl ⊢
  replace hl : lv_has ls 5 [(0, .ref ax), (1, .int b), (2, .int y0), (3, .int y1)] := hl
  refine lv_aload_n hx hb dX11_values_0 rfl (lv_at hl 0 rfl) ?_
  refine lv_iload_n hx hb dX11_values_1 rfl (lv_at hl 1 rfl) ?_
  have hPc := hP.sub (ws' := []) [] rfl
  have hDc := hD.sub (ws' := []) [] (by decide) rfl
  have hFc := va_free (wc := []) hD hS hA [] rfl
  refine zx_call (E0 := "java/lang/IndexOutOfBoundsException") (vx_runV (As := [.int b]) (rest := []) ⟨hx, hb, hml, hown, hw⟩ (c_kinOf_no l D dA dZ _ hfl ax b hz) (z_cwV 1 hw mw_863 mw_865 ms_17 mw_1 mw_866 rfl rfl (by decide +kernel) ⟨Nat.le_of_ble_eq_true rfl, Nat.le_of_ble_eq_true rfl⟩) (zPreV hPc hK hDc hT hE hS hFc (va_recv hK hP (ci := 0) (q0 := 0) rfl rfl)) rfl rfl hl.1 rfl (lv_room (Nat.le_of_ble_eq_true rfl)) dX11_values_2 ⟨Nat.le_of_ble_eq_true rfl, Nat.le_of_ble_eq_true rfl⟩) hS (fun q _ h => hFc q h) hFc (fun ce q9 H1 locs hz1 hk1 hS hce hcv hcl => ?_)
  exact vx_out (fun x hx => (hno x hx).elim) hlocks hce hcv hcl (fun t ht ha => zX_at hS ht) hS.2.2 (Nat.le_of_ble_eq_true rfl) (Nat.le_of_ble_eq_true rfl)
set_option maxHeartbeats 4000000 in
set_option maxRecDepth 100000 in
/-- likeness: no such book -/
theorem c_likeness_bad (l : Launch) (D : va_G) (dA : Nat → ClassId) (dZ : Nat → Nat) (sz : Nat) (hfl : l.stackTraces = false) (ax : Nat) (xt : Nat) (xp : Nat) (xs : Nat) (xl : Nat) (xb : Nat) (xk : Nat) (xm : Nat) (xq : Nat) (xg : Nat) (xf : Nat) (xe : Nat) (b : Int32) (y0 : Int32) (y1 : Int32) (hz : zbad b) : vx_Met l yX11_likeness (wz yX11_likeness cX11_likeness 7 (some .int)) ({ frames := 9, cells := 1, slots := 6, locals := 200 } : Room) (va_Pc [.ref ax, .int b, .int y0, .int y1] (zP D dA dZ [(ax, .inr (0, [.ref xt, .ref xp, .ref xs, .ref xl, .ref xb, .ref xk, .ref xm, .ref xq, .ref xg, .ref xf, .ref xe, .int 49]))] sz)) zNo (zX "java/lang/IndexOutOfBoundsException" (va_A [(ax, .inr (0, [.ref xt, .ref xp, .ref xs, .ref xl, .ref xb, .ref xk, .ref xm, .ref xq, .ref xg, .ref xf, .ref xe, .int 49]))] sz)) 1 6 (va_A [(ax, .inr (0, [.ref xt, .ref xp, .ref xs, .ref xl, .ref xb, .ref xk, .ref xm, .ref xq, .ref xg, .ref xf, .ref xe, .int 49]))] sz) := by
  refine vx_ofW (cc := cX11_likeness) (maxL := 7) (ret := (some .int)) (by decide) rfl ?_
  intro p e s m args below meth c s₁ B hml hno hv
  obtain ⟨rfl, hsz, hP, hK, hD0, hT, hE⟩ := hv
  have hx := B.exec
  have hb := B.bytes
  have hr := B.returns
  have hw := wz_hw (atoms_spec (ws := wz yX11_likeness cX11_likeness 7 (some .int)) B.pre)
  have hown : s.vm.findClass "KindredBooks" = some m.cls := findClass_of_methodNamed B.named
  have hlocks := B.notSynchronized
  have hn := hT.1.use (args := ([.ref ax, .int b, .int y0, .int y1] : List Value).toArray)
  subst hsz
  have hD := hD0.self (sz := s.heap.size)
  generalize hAe : va_A [(ax, .inr (0, [.ref xt, .ref xp, .ref xs, .ref xl, .ref xb, .ref xk, .ref xm, .ref xq, .ref xg, .ref xf, .ref xe, .int 49]))] s.heap.size = A at hD hE ⊢
  have hA : ∀ q : Nat, s.heap.size ≤ q → A q := fun q h => by rw [← hAe]; exact Or.inr h
  have hS : va_S A s.heap s.heap [] := va_S.rf
  replace hP : va_P D zcl [(ax, .inr (0, [.ref xt, .ref xp, .ref xs, .ref xl, .ref xb, .ref xk, .ref xm, .ref xq, .ref xg, .ref xf, .ref xe, .int 49]))] s.heap := hP
  have hl := lv_entry ([.ref ax, .int b, .int y0, .int y1]) (n := 7) (Nat.le_of_ble_eq_true rfl)
  rw [lg_entry_eq]
  generalize (lg_sl ([.ref ax, .int b, .int y0, .int y1]) ++ List.replicate (7 - (lg_sl ([.ref ax, .int b, .int y0, .int y1])).length) Slot.unset).toArray = ls at hl ⊢
  replace hl : lv_has ls 7 [(0, .ref ax), (1, .int b), (2, .int y0), (3, .int y1)] := hl
  refine lv_aload_n hx hb dX11_likeness_0 rfl (lv_at hl 0 rfl) ?_
  refine lv_iload_n hx hb dX11_likeness_1 rfl (lv_at hl 1 rfl) ?_
  have hPc := hP.sub (ws' := []) [] rfl
  have hDc := hD.sub (ws' := []) [] (by decide) rfl
  have hFc := va_free (wc := []) hD hS hA [] rfl
  refine zx_call (E0 := "java/lang/IndexOutOfBoundsException") (vx_runV (As := [.int b]) (rest := []) ⟨hx, hb, hml, hown, hw⟩ (c_kinOf_no l D dA dZ _ hfl ax b hz) (z_cwV 1 hw mw_863 mw_865 ms_17 mw_1 mw_866 rfl rfl (by decide +kernel) ⟨Nat.le_of_ble_eq_true rfl, Nat.le_of_ble_eq_true rfl⟩) (zPreV hPc hK hDc hT hE hS hFc (va_recv hK hP (ci := 0) (q0 := 0) rfl rfl)) rfl rfl hl.1 rfl (lv_room (Nat.le_of_ble_eq_true rfl)) dX11_likeness_2 ⟨Nat.le_of_ble_eq_true rfl, Nat.le_of_ble_eq_true rfl⟩) hS (fun q _ h => hFc q h) hFc (fun ce q9 H1 locs hz1 hk1 hS hce hcv hcl => ?_)
  exact vx_out (fun x hx => (hno x hx).elim) hlocks hce hcv hcl (fun t ht ha => zX_at hS ht) hS.2.2 (Nat.le_of_ble_eq_true rfl) (Nat.le_of_ble_eq_true rfl)
set_option maxHeartbeats 4000000 in
set_option maxRecDepth 100000 in
/-- suggest: no such book -/
theorem c_suggest_bad (l : Launch) (D : va_G) (dA : Nat → ClassId) (dZ : Nat → Nat) (sz : Nat) (hfl : l.stackTraces = false) (ax : Nat) (xt : Nat) (xp : Nat) (xs : Nat) (xl : Nat) (xb : Nat) (xk : Nat) (xm : Nat) (xq : Nat) (xg : Nat) (xf : Nat) (xe : Nat) (b : Int32) (y0 : Int32) (hz : zbad b) : vx_Met l yX11_suggest (wz yX11_suggest cX11_suggest 6 (some .int)) ({ frames := 9, cells := 1, slots := 6, locals := 200 } : Room) (va_Pc [.ref ax, .int b, .int y0] (zP D dA dZ [(ax, .inr (0, [.ref xt, .ref xp, .ref xs, .ref xl, .ref xb, .ref xk, .ref xm, .ref xq, .ref xg, .ref xf, .ref xe, .int 49]))] sz)) zNo (zX "java/lang/IndexOutOfBoundsException" (va_A [(ax, .inr (0, [.ref xt, .ref xp, .ref xs, .ref xl, .ref xb, .ref xk, .ref xm, .ref xq, .ref xg, .ref xf, .ref xe, .int 49]))] sz)) 1 6 (va_A [(ax, .inr (0, [.ref xt, .ref xp, .ref xs, .ref xl, .ref xb, .ref xk, .ref xm, .ref xq, .ref xg, .ref xf, .ref xe, .int 49]))] sz) := by
  refine vx_ofW (cc := cX11_suggest) (maxL := 6) (ret := (some .int)) (by decide) rfl ?_
  intro p e s m args below meth c s₁ B hml hno hv
  obtain ⟨rfl, hsz, hP, hK, hD0, hT, hE⟩ := hv
  have hx := B.exec
  have hb := B.bytes
  have hr := B.returns
  have hw := wz_hw (atoms_spec (ws := wz yX11_suggest cX11_suggest 6 (some .int)) B.pre)
  have hown : s.vm.findClass "KindredBooks" = some m.cls := findClass_of_methodNamed B.named
  have hlocks := B.notSynchronized
  have hn := hT.1.use (args := ([.ref ax, .int b, .int y0] : List Value).toArray)
  subst hsz
  have hD := hD0.self (sz := s.heap.size)
  generalize hAe : va_A [(ax, .inr (0, [.ref xt, .ref xp, .ref xs, .ref xl, .ref xb, .ref xk, .ref xm, .ref xq, .ref xg, .ref xf, .ref xe, .int 49]))] s.heap.size = A at hD hE ⊢
  have hA : ∀ q : Nat, s.heap.size ≤ q → A q := fun q h => by rw [← hAe]; exact Or.inr h
  have hS : va_S A s.heap s.heap [] := va_S.rf
  replace hP : va_P D zcl [(ax, .inr (0, [.ref xt, .ref xp, .ref xs, .ref xl, .ref xb, .ref xk, .ref xm, .ref xq, .ref xg, .ref xf, .ref xe, .int 49]))] s.heap := hP
  have hl := lv_entry ([.ref ax, .int b, .int y0]) (n := 6) (Nat.le_of_ble_eq_true rfl)
  rw [lg_entry_eq]
  generalize (lg_sl ([.ref ax, .int b, .int y0]) ++ List.replicate (6 - (lg_sl ([.ref ax, .int b, .int y0])).length) Slot.unset).toArray = ls at hl ⊢
  replace hl : lv_has ls 6 [(0, .ref ax), (1, .int b), (2, .int y0)] := hl
  refine lv_aload_n hx hb dX11_suggest_0 rfl (lv_at hl 0 rfl) ?_
  refine lv_iload_n hx hb dX11_suggest_1 rfl (lv_at hl 1 rfl) ?_
  have hPc := hP.sub (ws' := []) [] rfl
  have hDc := hD.sub (ws' := []) [] (by decide) rfl
  have hFc := va_free (wc := []) hD hS hA [] rfl
  refine zx_call (E0 := "java/lang/IndexOutOfBoundsException") (vx_runV (As := [.int b]) (rest := []) ⟨hx, hb, hml, hown, hw⟩ (c_kinOf_no l D dA dZ _ hfl ax b hz) (z_cwV 1 hw mw_863 mw_865 ms_17 mw_1 mw_866 rfl rfl (by decide +kernel) ⟨Nat.le_of_ble_eq_true rfl, Nat.le_of_ble_eq_true rfl⟩) (zPreV hPc hK hDc hT hE hS hFc (va_recv hK hP (ci := 0) (q0 := 0) rfl rfl)) rfl rfl hl.1 rfl (lv_room (Nat.le_of_ble_eq_true rfl)) dX11_suggest_2 ⟨Nat.le_of_ble_eq_true rfl, Nat.le_of_ble_eq_true rfl⟩) hS (fun q _ h => hFc q h) hFc (fun ce q9 H1 locs hz1 hk1 hS hce hcv hcl => ?_)
  exact vx_out (fun x hx => (hno x hx).elim) hlocks hce hcv hcl (fun t ht ha => zX_at hS ht) hS.2.2 (Nat.le_of_ble_eq_true rfl) (Nat.le_of_ble_eq_true rfl)
set_option maxHeartbeats 4000000 in
set_option maxRecDepth 100000 in
/-- search: no such book -/
theorem c_search_bad (l : Launch) (D : va_G) (dA : Nat → ClassId) (dZ : Nat → Nat) (sz : Nat) (hfl : l.stackTraces = false) (ax : Nat) (xt : Nat) (xp : Nat) (xs : Nat) (xl : Nat) (xb : Nat) (xk : Nat) (xm : Nat) (xq : Nat) (xg : Nat) (xf : Nat) (xe : Nat) (b : Int32) (y0 : Int32) (hz : zbad b) : vx_Met l yX11_search (wz yX11_search cX11_search 7 (some .int)) ({ frames := 9, cells := 1, slots := 6, locals := 200 } : Room) (va_Pc [.ref ax, .int b, .int y0] (zP D dA dZ [(ax, .inr (0, [.ref xt, .ref xp, .ref xs, .ref xl, .ref xb, .ref xk, .ref xm, .ref xq, .ref xg, .ref xf, .ref xe, .int 49]))] sz)) zNo (zX "java/lang/IndexOutOfBoundsException" (va_A [(ax, .inr (0, [.ref xt, .ref xp, .ref xs, .ref xl, .ref xb, .ref xk, .ref xm, .ref xq, .ref xg, .ref xf, .ref xe, .int 49]))] sz)) 1 6 (va_A [(ax, .inr (0, [.ref xt, .ref xp, .ref xs, .ref xl, .ref xb, .ref xk, .ref xm, .ref xq, .ref xg, .ref xf, .ref xe, .int 49]))] sz) := by
  refine vx_ofW (cc := cX11_search) (maxL := 7) (ret := (some .int)) (by decide) rfl ?_
  intro p e s m args below meth c s₁ B hml hno hv
  obtain ⟨rfl, hsz, hP, hK, hD0, hT, hE⟩ := hv
  have hx := B.exec
  have hb := B.bytes
  have hr := B.returns
  have hw := wz_hw (atoms_spec (ws := wz yX11_search cX11_search 7 (some .int)) B.pre)
  have hown : s.vm.findClass "KindredBooks" = some m.cls := findClass_of_methodNamed B.named
  have hlocks := B.notSynchronized
  have hn := hT.1.use (args := ([.ref ax, .int b, .int y0] : List Value).toArray)
  subst hsz
  have hD := hD0.self (sz := s.heap.size)
  generalize hAe : va_A [(ax, .inr (0, [.ref xt, .ref xp, .ref xs, .ref xl, .ref xb, .ref xk, .ref xm, .ref xq, .ref xg, .ref xf, .ref xe, .int 49]))] s.heap.size = A at hD hE ⊢
  have hA : ∀ q : Nat, s.heap.size ≤ q → A q := fun q h => by rw [← hAe]; exact Or.inr h
  have hS : va_S A s.heap s.heap [] := va_S.rf
  replace hP : va_P D zcl [(ax, .inr (0, [.ref xt, .ref xp, .ref xs, .ref xl, .ref xb, .ref xk, .ref xm, .ref xq, .ref xg, .ref xf, .ref xe, .int 49]))] s.heap := hP
  have hl := lv_entry ([.ref ax, .int b, .int y0]) (n := 7) (Nat.le_of_ble_eq_true rfl)
  rw [lg_entry_eq]
  generalize (lg_sl ([.ref ax, .int b, .int y0]) ++ List.replicate (7 - (lg_sl ([.ref ax, .int b, .int y0])).length) Slot.unset).toArray = ls at hl ⊢
  replace hl : lv_has ls 7 [(0, .ref ax), (1, .int b), (2, .int y0)] := hl
  refine lv_aload_n hx hb dX11_search_0 rfl (lv_at hl 0 rfl) ?_
  refine lv_iload_n hx hb dX11_search_1 rfl (lv_at hl 1 rfl) ?_
  have hPc := hP.sub (ws' := []) [] rfl
  have hDc := hD.sub (ws' := []) [] (by decide) rfl
  have hFc := va_free (wc := []) hD hS hA [] rfl
  refine zx_call (E0 := "java/lang/IndexOutOfBoundsException") (vx_runV (As := [.int b]) (rest := []) ⟨hx, hb, hml, hown, hw⟩ (c_kinOf_no l D dA dZ _ hfl ax b hz) (z_cwV 1 hw mw_863 mw_865 ms_17 mw_1 mw_866 rfl rfl (by decide +kernel) ⟨Nat.le_of_ble_eq_true rfl, Nat.le_of_ble_eq_true rfl⟩) (zPreV hPc hK hDc hT hE hS hFc (va_recv hK hP (ci := 0) (q0 := 0) rfl rfl)) rfl rfl hl.1 rfl (lv_room (Nat.le_of_ble_eq_true rfl)) dX11_search_2 ⟨Nat.le_of_ble_eq_true rfl, Nat.le_of_ble_eq_true rfl⟩) hS (fun q _ h => hFc q h) hFc (fun ce q9 H1 locs hz1 hk1 hS hce hcv hcl => ?_)
  exact vx_out (fun x hx => (hno x hx).elim) hlocks hce hcv hcl (fun t ht ha => zX_at hS ht) hS.2.2 (Nat.le_of_ble_eq_true rfl) (Nat.le_of_ble_eq_true rfl)
set_option maxHeartbeats 4000000 in
set_option maxRecDepth 100000 in
/-- members: no such book -/
theorem c_members_bad (l : Launch) (D : va_G) (dA : Nat → ClassId) (dZ : Nat → Nat) (sz : Nat) (hfl : l.stackTraces = false) (ax : Nat) (xt : Nat) (xp : Nat) (xs : Nat) (xl : Nat) (xb : Nat) (xk : Nat) (xm : Nat) (xq : Nat) (xg : Nat) (xf : Nat) (xe : Nat) (b : Int32) (y0 : Int32) (hz : zbad b) : vx_Met l yX11_members (wz yX11_members cX11_members 4 (some .int)) ({ frames := 9, cells := 1, slots := 6, locals := 200 } : Room) (va_Pc [.ref ax, .int b, .int y0] (zP D dA dZ [(ax, .inr (0, [.ref xt, .ref xp, .ref xs, .ref xl, .ref xb, .ref xk, .ref xm, .ref xq, .ref xg, .ref xf, .ref xe, .int 49]))] sz)) zNo (zX "java/lang/IndexOutOfBoundsException" (va_A [(ax, .inr (0, [.ref xt, .ref xp, .ref xs, .ref xl, .ref xb, .ref xk, .ref xm, .ref xq, .ref xg, .ref xf, .ref xe, .int 49]))] sz)) 1 6 (va_A [(ax, .inr (0, [.ref xt, .ref xp, .ref xs, .ref xl, .ref xb, .ref xk, .ref xm, .ref xq, .ref xg, .ref xf, .ref xe, .int 49]))] sz) := by
  refine vx_ofW (cc := cX11_members) (maxL := 4) (ret := (some .int)) (by decide) rfl ?_
  intro p e s m args below meth c s₁ B hml hno hv
  obtain ⟨rfl, hsz, hP, hK, hD0, hT, hE⟩ := hv
  have hx := B.exec
  have hb := B.bytes
  have hr := B.returns
  have hw := wz_hw (atoms_spec (ws := wz yX11_members cX11_members 4 (some .int)) B.pre)
  have hown : s.vm.findClass "KindredBooks" = some m.cls := findClass_of_methodNamed B.named
  have hlocks := B.notSynchronized
  have hn := hT.1.use (args := ([.ref ax, .int b, .int y0] : List Value).toArray)
  subst hsz
  have hD := hD0.self (sz := s.heap.size)
  generalize hAe : va_A [(ax, .inr (0, [.ref xt, .ref xp, .ref xs, .ref xl, .ref xb, .ref xk, .ref xm, .ref xq, .ref xg, .ref xf, .ref xe, .int 49]))] s.heap.size = A at hD hE ⊢
  have hA : ∀ q : Nat, s.heap.size ≤ q → A q := fun q h => by rw [← hAe]; exact Or.inr h
  have hS : va_S A s.heap s.heap [] := va_S.rf
  replace hP : va_P D zcl [(ax, .inr (0, [.ref xt, .ref xp, .ref xs, .ref xl, .ref xb, .ref xk, .ref xm, .ref xq, .ref xg, .ref xf, .ref xe, .int 49]))] s.heap := hP
  have hl := lv_entry ([.ref ax, .int b, .int y0]) (n := 4) (Nat.le_of_ble_eq_true rfl)
  rw [lg_entry_eq]
  generalize (lg_sl ([.ref ax, .int b, .int y0]) ++ List.replicate (4 - (lg_sl ([.ref ax, .int b, .int y0])).length) Slot.unset).toArray = ls at hl ⊢
  replace hl : lv_has ls 4 [(0, .ref ax), (1, .int b), (2, .int y0)] := hl
  refine lv_aload_n hx hb dX11_members_0 rfl (lv_at hl 0 rfl) ?_
  refine lv_iload_n hx hb dX11_members_1 rfl (lv_at hl 1 rfl) ?_
  have hPc := hP.sub (ws' := []) [] rfl
  have hDc := hD.sub (ws' := []) [] (by decide) rfl
  have hFc := va_free (wc := []) hD hS hA [] rfl
  refine zx_call (E0 := "java/lang/IndexOutOfBoundsException") (vx_runV (As := [.int b]) (rest := []) ⟨hx, hb, hml, hown, hw⟩ (c_kinOf_no l D dA dZ _ hfl ax b hz) (z_cwV 1 hw mw_863 mw_865 ms_17 mw_1 mw_866 rfl rfl (by decide +kernel) ⟨Nat.le_of_ble_eq_true rfl, Nat.le_of_ble_eq_true rfl⟩) (zPreV hPc hK hDc hT hE hS hFc (va_recv hK hP (ci := 0) (q0 := 0) rfl rfl)) rfl rfl hl.1 rfl (lv_room (Nat.le_of_ble_eq_true rfl)) dX11_members_2 ⟨Nat.le_of_ble_eq_true rfl, Nat.le_of_ble_eq_true rfl⟩) hS (fun q _ h => hFc q h) hFc (fun ce q9 H1 locs hz1 hk1 hS hce hcv hcl => ?_)
  exact vx_out (fun x hx => (hno x hx).elim) hlocks hce hcv hcl (fun t ht ha => zX_at hS ht) hS.2.2 (Nat.le_of_ble_eq_true rfl) (Nat.le_of_ble_eq_true rfl)
set_option maxHeartbeats 4000000 in
set_option maxRecDepth 100000 in
/-- memberAt: no such book -/
theorem c_memberAt_bad (l : Launch) (D : va_G) (dA : Nat → ClassId) (dZ : Nat → Nat) (sz : Nat) (hfl : l.stackTraces = false) (ax : Nat) (xt : Nat) (xp : Nat) (xs : Nat) (xl : Nat) (xb : Nat) (xk : Nat) (xm : Nat) (xq : Nat) (xg : Nat) (xf : Nat) (xe : Nat) (b : Int32) (y0 : Int32) (y1 : Int32) (hz : zbad b) : vx_Met l yX11_memberAt (wz yX11_memberAt cX11_memberAt 6 (some .int)) ({ frames := 9, cells := 1, slots := 6, locals := 200 } : Room) (va_Pc [.ref ax, .int b, .int y0, .int y1] (zP D dA dZ [(ax, .inr (0, [.ref xt, .ref xp, .ref xs, .ref xl, .ref xb, .ref xk, .ref xm, .ref xq, .ref xg, .ref xf, .ref xe, .int 49]))] sz)) zNo (zX "java/lang/IndexOutOfBoundsException" (va_A [(ax, .inr (0, [.ref xt, .ref xp, .ref xs, .ref xl, .ref xb, .ref xk, .ref xm, .ref xq, .ref xg, .ref xf, .ref xe, .int 49]))] sz)) 1 6 (va_A [(ax, .inr (0, [.ref xt, .ref xp, .ref xs, .ref xl, .ref xb, .ref xk, .ref xm, .ref xq, .ref xg, .ref xf, .ref xe, .int 49]))] sz) := by
  refine vx_ofW (cc := cX11_memberAt) (maxL := 6) (ret := (some .int)) (by decide) rfl ?_
  intro p e s m args below meth c s₁ B hml hno hv
  obtain ⟨rfl, hsz, hP, hK, hD0, hT, hE⟩ := hv
  have hx := B.exec
  have hb := B.bytes
  have hr := B.returns
  have hw := wz_hw (atoms_spec (ws := wz yX11_memberAt cX11_memberAt 6 (some .int)) B.pre)
  have hown : s.vm.findClass "KindredBooks" = some m.cls := findClass_of_methodNamed B.named
  have hlocks := B.notSynchronized
  have hn := hT.1.use (args := ([.ref ax, .int b, .int y0, .int y1] : List Value).toArray)
  subst hsz
  have hD := hD0.self (sz := s.heap.size)
  generalize hAe : va_A [(ax, .inr (0, [.ref xt, .ref xp, .ref xs, .ref xl, .ref xb, .ref xk, .ref xm, .ref xq, .ref xg, .ref xf, .ref xe, .int 49]))] s.heap.size = A at hD hE ⊢
  have hA : ∀ q : Nat, s.heap.size ≤ q → A q := fun q h => by rw [← hAe]; exact Or.inr h
  have hS : va_S A s.heap s.heap [] := va_S.rf
  replace hP : va_P D zcl [(ax, .inr (0, [.ref xt, .ref xp, .ref xs, .ref xl, .ref xb, .ref xk, .ref xm, .ref xq, .ref xg, .ref xf, .ref xe, .int 49]))] s.heap := hP
  have hl := lv_entry ([.ref ax, .int b, .int y0, .int y1]) (n := 6) (Nat.le_of_ble_eq_true rfl)
  rw [lg_entry_eq]
  generalize (lg_sl ([.ref ax, .int b, .int y0, .int y1]) ++ List.replicate (6 - (lg_sl ([.ref ax, .int b, .int y0, .int y1])).length) Slot.unset).toArray = ls at hl ⊢
  replace hl : lv_has ls 6 [(0, .ref ax), (1, .int b), (2, .int y0), (3, .int y1)] := hl
  refine lv_aload_n hx hb dX11_memberAt_0 rfl (lv_at hl 0 rfl) ?_
  refine lv_iload_n hx hb dX11_memberAt_1 rfl (lv_at hl 1 rfl) ?_
  have hPc := hP.sub (ws' := []) [] rfl
  have hDc := hD.sub (ws' := []) [] (by decide) rfl
  have hFc := va_free (wc := []) hD hS hA [] rfl
  refine zx_call (E0 := "java/lang/IndexOutOfBoundsException") (vx_runV (As := [.int b]) (rest := []) ⟨hx, hb, hml, hown, hw⟩ (c_kinOf_no l D dA dZ _ hfl ax b hz) (z_cwV 1 hw mw_863 mw_865 ms_17 mw_1 mw_866 rfl rfl (by decide +kernel) ⟨Nat.le_of_ble_eq_true rfl, Nat.le_of_ble_eq_true rfl⟩) (zPreV hPc hK hDc hT hE hS hFc (va_recv hK hP (ci := 0) (q0 := 0) rfl rfl)) rfl rfl hl.1 rfl (lv_room (Nat.le_of_ble_eq_true rfl)) dX11_memberAt_2 ⟨Nat.le_of_ble_eq_true rfl, Nat.le_of_ble_eq_true rfl⟩) hS (fun q _ h => hFc q h) hFc (fun ce q9 H1 locs hz1 hk1 hS hce hcv hcl => ?_)
  exact vx_out (fun x hx => (hno x hx).elim) hlocks hce hcv hcl (fun t ht ha => zX_at hS ht) hS.2.2 (Nat.le_of_ble_eq_true rfl) (Nat.le_of_ble_eq_true rfl)
set_option maxHeartbeats 4000000 in
set_option maxRecDepth 100000 in
/-- yearly: no such book -/
theorem c_yearly_bad (l : Launch) (D : va_G) (dA : Nat → ClassId) (dZ : Nat → Nat) (sz : Nat) (hfl : l.stackTraces = false) (ax : Nat) (xt : Nat) (xp : Nat) (xs : Nat) (xl : Nat) (xb : Nat) (xk : Nat) (xm : Nat) (xq : Nat) (xg : Nat) (xf : Nat) (xe : Nat) (b : Int32) (y0 : Int32) (y1 : Int32) (y2 : Int32) (y3 : Int32) (hz : zbad b) : vx_Met l yX11_yearly (wz yX11_yearly cX11_yearly 11 (some .int)) ({ frames := 9, cells := 1, slots := 6, locals := 200 } : Room) (va_Pc [.ref ax, .int b, .int y0, .int y1, .int y2, .int y3] (zP D dA dZ [(ax, .inr (0, [.ref xt, .ref xp, .ref xs, .ref xl, .ref xb, .ref xk, .ref xm, .ref xq, .ref xg, .ref xf, .ref xe, .int 49]))] sz)) zNo (zX "java/lang/IndexOutOfBoundsException" (va_A [(ax, .inr (0, [.ref xt, .ref xp, .ref xs, .ref xl, .ref xb, .ref xk, .ref xm, .ref xq, .ref xg, .ref xf, .ref xe, .int 49]))] sz)) 1 6 (va_A [(ax, .inr (0, [.ref xt, .ref xp, .ref xs, .ref xl, .ref xb, .ref xk, .ref xm, .ref xq, .ref xg, .ref xf, .ref xe, .int 49]))] sz) := by
  refine vx_ofW (cc := cX11_yearly) (maxL := 11) (ret := (some .int)) (by decide) rfl ?_
  intro p e s m args below meth c s₁ B hml hno hv
  obtain ⟨rfl, hsz, hP, hK, hD0, hT, hE⟩ := hv
  have hx := B.exec
  have hb := B.bytes
  have hr := B.returns
  have hw := wz_hw (atoms_spec (ws := wz yX11_yearly cX11_yearly 11 (some .int)) B.pre)
  have hown : s.vm.findClass "KindredBooks" = some m.cls := findClass_of_methodNamed B.named
  have hlocks := B.notSynchronized
  have hn := hT.1.use (args := ([.ref ax, .int b, .int y0, .int y1, .int y2, .int y3] : List Value).toArray)
  subst hsz
  have hD := hD0.self (sz := s.heap.size)
  generalize hAe : va_A [(ax, .inr (0, [.ref xt, .ref xp, .ref xs, .ref xl, .ref xb, .ref xk, .ref xm, .ref xq, .ref xg, .ref xf, .ref xe, .int 49]))] s.heap.size = A at hD hE ⊢
  have hA : ∀ q : Nat, s.heap.size ≤ q → A q := fun q h => by rw [← hAe]; exact Or.inr h
  have hS : va_S A s.heap s.heap [] := va_S.rf
  replace hP : va_P D zcl [(ax, .inr (0, [.ref xt, .ref xp, .ref xs, .ref xl, .ref xb, .ref xk, .ref xm, .ref xq, .ref xg, .ref xf, .ref xe, .int 49]))] s.heap := hP
  have hl := lv_entry ([.ref ax, .int b, .int y0, .int y1, .int y2, .int y3]) (n := 11) (Nat.le_of_ble_eq_true rfl)
  rw [lg_entry_eq]
  generalize (lg_sl ([.ref ax, .int b, .int y0, .int y1, .int y2, .int y3]) ++ List.replicate (11 - (lg_sl ([.ref ax, .int b, .int y0, .int y1, .int y2, .int y3])).length) Slot.unset).toArray = ls at hl ⊢
  replace hl : lv_has ls 11 [(0, .ref ax), (1, .int b), (2, .int y0), (3, .int y1), (4, .int y2), (5, .int y3)] := hl
  refine lv_aload_n hx hb dX11_yearly_0 rfl (lv_at hl 0 rfl) ?_
  refine lv_iload_n hx hb dX11_yearly_1 rfl (lv_at hl 1 rfl) ?_
  have hPc := hP.sub (ws' := []) [] rfl
  have hDc := hD.sub (ws' := []) [] (by decide) rfl
  have hFc := va_free (wc := []) hD hS hA [] rfl
  refine zx_call (E0 := "java/lang/IndexOutOfBoundsException") (vx_runV (As := [.int b]) (rest := []) ⟨hx, hb, hml, hown, hw⟩ (c_kinOf_no l D dA dZ _ hfl ax b hz) (z_cwV 1 hw mw_863 mw_865 ms_17 mw_1 mw_866 rfl rfl (by decide +kernel) ⟨Nat.le_of_ble_eq_true rfl, Nat.le_of_ble_eq_true rfl⟩) (zPreV hPc hK hDc hT hE hS hFc (va_recv hK hP (ci := 0) (q0 := 0) rfl rfl)) rfl rfl hl.1 rfl (lv_room (Nat.le_of_ble_eq_true rfl)) dX11_yearly_2 ⟨Nat.le_of_ble_eq_true rfl, Nat.le_of_ble_eq_true rfl⟩) hS (fun q _ h => hFc q h) hFc (fun ce q9 H1 locs hz1 hk1 hS hce hcv hcl => ?_)
  exact vx_out (fun x hx => (hno x hx).elim) hlocks hce hcv hcl (fun t ht ha => zX_at hS ht) hS.2.2 (Nat.le_of_ble_eq_true rfl) (Nat.le_of_ble_eq_true rfl)
set_option maxHeartbeats 4000000 in
set_option maxRecDepth 100000 in
/-- line: no such book -/
theorem c_line_bad (l : Launch) (D : va_G) (dA : Nat → ClassId) (dZ : Nat → Nat) (sz : Nat) (hfl : l.stackTraces = false) (ax : Nat) (xt : Nat) (xp : Nat) (xs : Nat) (xl : Nat) (xb : Nat) (xk : Nat) (xm : Nat) (xq : Nat) (xg : Nat) (xf : Nat) (xe : Nat) (b : Int32) (y0 : Int32) (y1 : Int32) (hz : zbad b) : vx_Met l yX11_line (wz yX11_line cX11_line 6 (some .int)) ({ frames := 9, cells := 1, slots := 6, locals := 200 } : Room) (va_Pc [.ref ax, .int b, .int y0, .int y1] (zP D dA dZ [(ax, .inr (0, [.ref xt, .ref xp, .ref xs, .ref xl, .ref xb, .ref xk, .ref xm, .ref xq, .ref xg, .ref xf, .ref xe, .int 49]))] sz)) zNo (zX "java/lang/IndexOutOfBoundsException" (va_A [(ax, .inr (0, [.ref xt, .ref xp, .ref xs, .ref xl, .ref xb, .ref xk, .ref xm, .ref xq, .ref xg, .ref xf, .ref xe, .int 49]))] sz)) 1 6 (va_A [(ax, .inr (0, [.ref xt, .ref xp, .ref xs, .ref xl, .ref xb, .ref xk, .ref xm, .ref xq, .ref xg, .ref xf, .ref xe, .int 49]))] sz) := by
  refine vx_ofW (cc := cX11_line) (maxL := 6) (ret := (some .int)) (by decide) rfl ?_
  intro p e s m args below meth c s₁ B hml hno hv
  obtain ⟨rfl, hsz, hP, hK, hD0, hT, hE⟩ := hv
  have hx := B.exec
  have hb := B.bytes
  have hr := B.returns
  have hw := wz_hw (atoms_spec (ws := wz yX11_line cX11_line 6 (some .int)) B.pre)
  have hown : s.vm.findClass "KindredBooks" = some m.cls := findClass_of_methodNamed B.named
  have hlocks := B.notSynchronized
  have hn := hT.1.use (args := ([.ref ax, .int b, .int y0, .int y1] : List Value).toArray)
  subst hsz
  have hD := hD0.self (sz := s.heap.size)
  generalize hAe : va_A [(ax, .inr (0, [.ref xt, .ref xp, .ref xs, .ref xl, .ref xb, .ref xk, .ref xm, .ref xq, .ref xg, .ref xf, .ref xe, .int 49]))] s.heap.size = A at hD hE ⊢
  have hA : ∀ q : Nat, s.heap.size ≤ q → A q := fun q h => by rw [← hAe]; exact Or.inr h
  have hS : va_S A s.heap s.heap [] := va_S.rf
  replace hP : va_P D zcl [(ax, .inr (0, [.ref xt, .ref xp, .ref xs, .ref xl, .ref xb, .ref xk, .ref xm, .ref xq, .ref xg, .ref xf, .ref xe, .int 49]))] s.heap := hP
  have hl := lv_entry ([.ref ax, .int b, .int y0, .int y1]) (n := 6) (Nat.le_of_ble_eq_true rfl)
  rw [lg_entry_eq]
  generalize (lg_sl ([.ref ax, .int b, .int y0, .int y1]) ++ List.replicate (6 - (lg_sl ([.ref ax, .int b, .int y0, .int y1])).length) Slot.unset).toArray = ls at hl ⊢
  replace hl : lv_has ls 6 [(0, .ref ax), (1, .int b), (2, .int y0), (3, .int y1)] := hl
  refine lv_aload_n hx hb dX11_line_0 rfl (lv_at hl 0 rfl) ?_
  refine lv_iload_n hx hb dX11_line_1 rfl (lv_at hl 1 rfl) ?_
  have hPc := hP.sub (ws' := []) [] rfl
  have hDc := hD.sub (ws' := []) [] (by decide) rfl
  have hFc := va_free (wc := []) hD hS hA [] rfl
  refine zx_call (E0 := "java/lang/IndexOutOfBoundsException") (vx_runV (As := [.int b]) (rest := []) ⟨hx, hb, hml, hown, hw⟩ (c_bookOf_no l D dA dZ _ hfl ax b hz) (z_cwV 1 hw mw_603 mw_605 ms_3 mw_1 mw_606 rfl rfl (by decide +kernel) ⟨Nat.le_of_ble_eq_true rfl, Nat.le_of_ble_eq_true rfl⟩) (zPreV hPc hK hDc hT hE hS hFc (va_recv hK hP (ci := 0) (q0 := 0) rfl rfl)) rfl rfl hl.1 rfl (lv_room (Nat.le_of_ble_eq_true rfl)) dX11_line_2 ⟨Nat.le_of_ble_eq_true rfl, Nat.le_of_ble_eq_true rfl⟩) hS (fun q _ h => hFc q h) hFc (fun ce q9 H1 locs hz1 hk1 hS hce hcv hcl => ?_)
  exact vx_out (fun x hx => (hno x hx).elim) hlocks hce hcv hcl (fun t ht ha => zX_at hS ht) hS.2.2 (Nat.le_of_ble_eq_true rfl) (Nat.le_of_ble_eq_true rfl)
set_option maxHeartbeats 4000000 in
set_option maxRecDepth 100000 in
/-- makeOfTwo: no such book -/
theorem c_makeOfTwo_bad (l : Launch) (D : va_G) (dA : Nat → ClassId) (dZ : Nat → Nat) (sz : Nat) (hfl : l.stackTraces = false) (ax : Nat) (xt : Nat) (xp : Nat) (xs : Nat) (xl : Nat) (xb : Nat) (xk : Nat) (xm : Nat) (xq : Nat) (xg : Nat) (xf : Nat) (xe : Nat) (b : Int32) (y0 : Int32) (y1 : Int32) (y2 : Int32) (hz : zbad b) : vx_Met l yX11_makeOfTwo (wz yX11_makeOfTwo cX11_makeOfTwo 6 (some .int)) ({ frames := 8, cells := 1, slots := 6, locals := 150 } : Room) (va_Pc [.ref ax, .int b, .int y0, .int y1, .int y2] (zP D dA dZ [(ax, .inr (0, [.ref xt, .ref xp, .ref xs, .ref xl, .ref xb, .ref xk, .ref xm, .ref xq, .ref xg, .ref xf, .ref xe, .int 49]))] sz)) zNo (zX "java/lang/IndexOutOfBoundsException" (va_A [(ax, .inr (0, [.ref xt, .ref xp, .ref xs, .ref xl, .ref xb, .ref xk, .ref xm, .ref xq, .ref xg, .ref xf, .ref xe, .int 49]))] sz)) 1 6 (va_A [(ax, .inr (0, [.ref xt, .ref xp, .ref xs, .ref xl, .ref xb, .ref xk, .ref xm, .ref xq, .ref xg, .ref xf, .ref xe, .int 49]))] sz) := by
  refine vx_ofW (cc := cX11_makeOfTwo) (maxL := 6) (ret := (some .int)) (by decide) rfl ?_
  intro p e s m args below meth c s₁ B hml hno hv
  obtain ⟨rfl, hsz, hP, hK, hD0, hT, hE⟩ := hv
  have hx := B.exec
  have hb := B.bytes
  have hr := B.returns
  have hw := wz_hw (atoms_spec (ws := wz yX11_makeOfTwo cX11_makeOfTwo 6 (some .int)) B.pre)
  have hown : s.vm.findClass "KindredBooks" = some m.cls := findClass_of_methodNamed B.named
  have hlocks := B.notSynchronized
  have hn := hT.1.use (args := ([.ref ax, .int b, .int y0, .int y1, .int y2] : List Value).toArray)
  subst hsz
  have hD := hD0.self (sz := s.heap.size)
  generalize hAe : va_A [(ax, .inr (0, [.ref xt, .ref xp, .ref xs, .ref xl, .ref xb, .ref xk, .ref xm, .ref xq, .ref xg, .ref xf, .ref xe, .int 49]))] s.heap.size = A at hD hE ⊢
  have hA : ∀ q : Nat, s.heap.size ≤ q → A q := fun q h => by rw [← hAe]; exact Or.inr h
  have hS : va_S A s.heap s.heap [] := va_S.rf
  replace hP : va_P D zcl [(ax, .inr (0, [.ref xt, .ref xp, .ref xs, .ref xl, .ref xb, .ref xk, .ref xm, .ref xq, .ref xg, .ref xf, .ref xe, .int 49]))] s.heap := hP
  have hl := lv_entry ([.ref ax, .int b, .int y0, .int y1, .int y2]) (n := 6) (Nat.le_of_ble_eq_true rfl)
  rw [lg_entry_eq]
  generalize (lg_sl ([.ref ax, .int b, .int y0, .int y1, .int y2]) ++ List.replicate (6 - (lg_sl ([.ref ax, .int b, .int y0, .int y1, .int y2])).length) Slot.unset).toArray = ls at hl ⊢
  replace hl : lv_has ls 6 [(0, .ref ax), (1, .int b), (2, .int y0), (3, .int y1), (4, .int y2)] := hl
  refine lv_aload_n hx hb dX11_makeOfTwo_0 rfl (lv_at hl 0 rfl) ?_
  refine lv_iload_n hx hb dX11_makeOfTwo_1 rfl (lv_at hl 1 rfl) ?_
  have hPc := hP.sub (ws' := []) [] rfl
  have hDc := hD.sub (ws' := []) [] (by decide) rfl
  have hFc := va_free (wc := []) hD hS hA [] rfl
  refine zx_call (E0 := "java/lang/IndexOutOfBoundsException") (vx_runV (As := [.int b]) (rest := []) ⟨hx, hb, hml, hown, hw⟩ (c_bookOf_no l D dA dZ _ hfl ax b hz) (z_cwV 1 hw mw_603 mw_605 ms_3 mw_1 mw_606 rfl rfl (by decide +kernel) ⟨Nat.le_of_ble_eq_true rfl, Nat.le_of_ble_eq_true rfl⟩) (zPreV hPc hK hDc hT hE hS hFc (va_recv hK hP (ci := 0) (q0 := 0) rfl rfl)) rfl rfl hl.1 rfl (lv_room (Nat.le_of_ble_eq_true rfl)) dX11_makeOfTwo_2 ⟨Nat.le_of_ble_eq_true rfl, Nat.le_of_ble_eq_true rfl⟩) hS (fun q _ h => hFc q h) hFc (fun ce q9 H1 locs hz1 hk1 hS hce hcv hcl => ?_)
  exact vx_out (fun x hx => (hno x hx).elim) hlocks hce hcv hcl (fun t ht ha => zX_at hS ht) hS.2.2 (Nat.le_of_ble_eq_true rfl) (Nat.le_of_ble_eq_true rfl)
set_option maxHeartbeats 4000000 in
set_option maxRecDepth 100000 in
/-- makeOfTwo: both are one -/
theorem c_makeOfTwo_same (l : Launch) (D : va_G) (dA : Nat → ClassId) (dZ : Nat → Nat) (sz : Nat) (hfl : l.stackTraces = false) (ax : Nat) (xt : Nat) (xp : Nat) (xs : Nat) (xl : Nat) (xb : Nat) (xk : Nat) (xm : Nat) (xq : Nat) (xg : Nat) (xf : Nat) (xe : Nat) (i : Nat) (fb : Nat → Option Nat) (bk : Nat) (b1 : Nat) (b2 : Nat) (b3 : Nat) (b4 : Nat) (hd : Int32) (y0 : Int32) (y1 : Int32) (hi : i < 3) (hf : fb i = some bk) : vx_Met l yX11_makeOfTwo (wz yX11_makeOfTwo cX11_makeOfTwo 6 (some .int)) ({ frames := 8, cells := 1, slots := 6, locals := 150 } : Room) (va_Pc [.ref ax, .int (nI i), .int y0, .int y1, .int y1] (zP D dA dZ [(ax, .inr (0, [.ref xt, .ref xp, .ref xs, .ref xl, .ref xb, .ref xk, .ref xm, .ref xq, .ref xg, .ref xf, .ref xe, .int 49])), (xb, .inl (dA 6, 3, .inr (.inr (.inr (.inr fb)))))] sz)) zNo (zX "java/lang/IllegalArgumentException" (va_A [(ax, .inr (0, [.ref xt, .ref xp, .ref xs, .ref xl, .ref xb, .ref xk, .ref xm, .ref xq, .ref xg, .ref xf, .ref xe, .int 49])), (xb, .inl (dA 6, 3, .inr (.inr (.inr (.inr fb)))))] sz)) 1 6 (va_A [(ax, .inr (0, [.ref xt, .ref xp, .ref xs, .ref xl, .ref xb, .ref xk, .ref xm, .ref xq, .ref xg, .ref xf, .ref xe, .int 49])), (xb, .inl (dA 6, 3, .inr (.inr (.inr (.inr fb)))))] sz) := by
  refine vx_ofW (cc := cX11_makeOfTwo) (maxL := 6) (ret := (some .int)) (by decide) rfl ?_
  intro p e s m args below meth c s₁ B hml hno hv
  obtain ⟨rfl, hsz, hP, hK, hD0, hT, hE⟩ := hv
  have hx := B.exec
  have hb := B.bytes
  have hr := B.returns
  have hw := wz_hw (atoms_spec (ws := wz yX11_makeOfTwo cX11_makeOfTwo 6 (some .int)) B.pre)
  have hown : s.vm.findClass "KindredBooks" = some m.cls := findClass_of_methodNamed B.named
  have hlocks := B.notSynchronized
  have hn := hT.1.use (args := ([.ref ax, .int (nI i), .int y0, .int y1, .int y1] : List Value).toArray)
  subst hsz
  have hD := hD0.self (sz := s.heap.size)
  generalize hAe : va_A [(ax, .inr (0, [.ref xt, .ref xp, .ref xs, .ref xl, .ref xb, .ref xk, .ref xm, .ref xq, .ref xg, .ref xf, .ref xe, .int 49])), (xb, .inl (dA 6, 3, .inr (.inr (.inr (.inr fb)))))] s.heap.size = A at hD hE ⊢
  have hA : ∀ q : Nat, s.heap.size ≤ q → A q := fun q h => by rw [← hAe]; exact Or.inr h
  have hS : va_S A s.heap s.heap [] := va_S.rf
  replace hP : va_P D zcl [(ax, .inr (0, [.ref xt, .ref xp, .ref xs, .ref xl, .ref xb, .ref xk, .ref xm, .ref xq, .ref xg, .ref xf, .ref xe, .int 49])), (xb, .inl (dA 6, 3, .inr (.inr (.inr (.inr fb)))))] s.heap := hP
  have hl := lv_entry ([.ref ax, .int (nI i), .int y0, .int y1, .int y1]) (n := 6) (Nat.le_of_ble_eq_true rfl)
  rw [lg_entry_eq]
  generalize (lg_sl ([.ref ax, .int (nI i), .int y0, .int y1, .int y1]) ++ List.replicate (6 - (lg_sl ([.ref ax, .int (nI i), .int y0, .int y1, .int y1])).length) Slot.unset).toArray = ls at hl ⊢
  replace hl : lv_has ls 6 [(0, .ref ax), (1, .int (nI i)), (2, .int y0), (3, .int y1), (4, .int y1)] := hl
  refine lv_aload_n hx hb dX11_makeOfTwo_0 rfl (lv_at hl 0 rfl) ?_
  refine lv_iload_n hx hb dX11_makeOfTwo_1 rfl (lv_at hl 1 rfl) ?_
  have hPc := hP.sub (ws' := [(ax, .inr (0, [.ref xt, .ref xp, .ref xs, .ref xl, .ref xb, .ref xk, .ref xm, .ref xq, .ref xg, .ref xf, .ref xe, .int 49])), (xb, .inl (dA 6, 3, .inr (.inr (.inr (.inr fb)))))]) [0, 1] rfl
  have hDc := hD.sub (ws' := [(ax, .inr (0, [.ref xt, .ref xp, .ref xs, .ref xl, .ref xb, .ref xk, .ref xm, .ref xq, .ref xg, .ref xf, .ref xe, .int 49])), (xb, .inl (dA 6, 3, .inr (.inr (.inr (.inr fb)))))]) [0, 1] (by decide) rfl
  have hFc := va_free (wc := [(ax, .inr (0, [.ref xt, .ref xp, .ref xs, .ref xl, .ref xb, .ref xk, .ref xm, .ref xq, .ref xg, .ref xf, .ref xe, .int 49])), (xb, .inl (dA 6, 3, .inr (.inr (.inr (.inr fb)))))]) hD hS hA [0, 1] rfl
  refine va_callq (va_runV (As := [.int (nI i)]) (rest := []) ⟨hx, hb, hml, hown, hw⟩ (c_bookOf l D dA dZ _ ax xt xp xs xl xb xk xm xq xg xf xe i fb bk hi hf) (z_cwV 1 hw mw_603 mw_605 ms_3 mw_1 mw_606 rfl rfl (by decide +kernel) ⟨Nat.le_of_ble_eq_true rfl, Nat.le_of_ble_eq_true rfl⟩) (zPreV hPc hK hDc hT hE hS hFc (va_recv hK hP (ci := 0) (q0 := 0) rfl rfl)) rfl rfl hl.1 rfl (lv_room (Nat.le_of_ble_eq_true rfl)) dX11_makeOfTwo_2 ⟨Nat.le_of_ble_eq_true rfl, Nat.le_of_ble_eq_true rfl⟩) hS (fun q _ h => hFc q h) hFc (fun r_1 u t H1 locs ht hvm hpo hB hz1 hk1 hS => ?_)
  obtain ⟨hP1, hD1⟩ := hB
  rw [ht] at hP1
  obtain ⟨hP, hD⟩ := va_join (wr := []) (w1 := [(ax, .inr (0, [.ref xt, .ref xp, .ref xs, .ref xl, .ref xb, .ref xk, .ref xm, .ref xq, .ref xg, .ref xf, .ref xe, .int 49])), (xb, .inl (dA 6, 3, .inr (.inr (.inr (.inr fb)))))]) hP hD [0, 1] [] rfl rfl (by decide) (by decide) hk1 hFc hP1 hD1
  generalize H1 = H at hP hS ⊢
  have hP : va_P D zcl [(ax, .inr (0, [.ref xt, .ref xp, .ref xs, .ref xl, .ref xb, .ref xk, .ref xm, .ref xq, .ref xg, .ref xf, .ref xe, .int 49])), (xb, .inl (dA 6, 3, .inr (.inr (.inr (.inr fb)))))] H := hP
  have hD : va_D A [(ax, .inr (0, [.ref xt, .ref xp, .ref xs, .ref xl, .ref xb, .ref xk, .ref xm, .ref xq, .ref xg, .ref xf, .ref xe, .int 49])), (xb, .inl (dA 6, 3, .inr (.inr (.inr (.inr fb)))))] := hD
  obtain rfl : r_1 = (some bk) := hpo
  refine lv_astore (lv' := [(5, .ref bk), (0, .ref ax), (1, .int (nI i)), (2, .int y0), (3, .int y1), (4, .int y1)]) hx hb dX11_makeOfTwo_5 hl (by decide) rfl (fun ls hl => ?_)
  refine lv_iload_n hx hb dX11_makeOfTwo_7 rfl (lv_at hl 4 rfl) ?_
  refine lv_iload hx hb dX11_makeOfTwo_8 (lv_at hl 5 rfl) ?_
  refine lv_icmp_ne (tgt := 24) hx hb dX11_makeOfTwo_10 (by decide) (fun zc => absurd rfl zc) (fun _ => ?_)
  obtain ⟨sa, hsa⟩ := hT.2.1 ("KindredBooks", 416, "both entries are the same one") (by decide)
  exact vx_throwSW (own := "KindredBooks") (cls := "java/lang/IllegalArgumentException") (names := ["java/lang/RuntimeException", "java/lang/Exception"]) (XC := zX "java/lang/IllegalArgumentException" A) hx hb hfl hown (by decide) (by decide) (hw _ mw_540) (hw _ mw_33) hsa (z_at hw hT.1 xat_KindredBooks_102_IllegalArgumentException) xgd_KindredBooks_102_98 hE.2.2.2.2.2.1 hE.2.2.2.2.2.2 hS (hl.1.trans hml.symm) dX11_makeOfTwo_13 dX11_makeOfTwo_16 dX11_makeOfTwo_17 dX11_makeOfTwo_20 dX11_makeOfTwo_23 (fun x hx => (hno x hx).elim) (Nat.le_of_ble_eq_true rfl) (Nat.le_of_ble_eq_true rfl) (Nat.le_of_ble_eq_true rfl) (Nat.le_of_ble_eq_true rfl) hlocks (fun t _ h1 h2 => zX_of hS h1 h2) hS.2.2 (Nat.le_of_ble_eq_true rfl) (Nat.le_of_ble_eq_true rfl)
set_option maxHeartbeats 4000000 in
set_option maxRecDepth 100000 in
/-- makeOfTwo: none lives -/
theorem c_makeOfTwo_dead (l : Launch) (D : va_G) (dA : Nat → ClassId) (dZ : Nat → Nat) (sz : Nat) (hfl : l.stackTraces = false) (ax : Nat) (xt : Nat) (xp : Nat) (xs : Nat) (xl : Nat) (xb : Nat) (xk : Nat) (xm : Nat) (xq : Nat) (xg : Nat) (xf : Nat) (xe : Nat) (i : Nat) (fb : Nat → Option Nat) (bk : Nat) (b1 : Nat) (b2 : Nat) (b3 : Nat) (b4 : Nat) (hd : Int32) (bl : Nat) (no : Nat) (ro : Nat) (y0 : Int32) (y1 : Int32) (y2 : Int32) (hi : i < 3) (hf : fb i = some bk) (hne : ¬ y1 = y2) : vx_Met l yX11_makeOfTwo (wz yX11_makeOfTwo cX11_makeOfTwo 6 (some .int)) ({ frames := 9, cells := 1, slots := 6, locals := 250 } : Room) (va_Pc [.ref ax, .int (nI i), .int y0, .int y1, .int y2] (zP D dA dZ [(ax, .inr (0, [.ref xt, .ref xp, .ref xs, .ref xl, .ref xb, .ref xk, .ref xm, .ref xq, .ref xg, .ref xf, .ref xe, .int 49])), (xb, .inl (dA 6, 3, .inr (.inr (.inr (.inr fb))))), (bk, .inr (5, [.int hd, .ref xl, .ref b1, .ref b2, .ref b3, .ref b4, .int 0, .int 0, .int 0])), (b3, .inl (dA 1, 250, .inl (fun _ => 0))), (xl, .inr (2, [.ref bl, .ref no, .ref ro, .int 0]))] sz)) zNo (zX "java/util/NoSuchElementException" (va_A [(ax, .inr (0, [.ref xt, .ref xp, .ref xs, .ref xl, .ref xb, .ref xk, .ref xm, .ref xq, .ref xg, .ref xf, .ref xe, .int 49])), (xb, .inl (dA 6, 3, .inr (.inr (.inr (.inr fb))))), (bk, .inr (5, [.int hd, .ref xl, .ref b1, .ref b2, .ref b3, .ref b4, .int 0, .int 0, .int 0])), (b3, .inl (dA 1, 250, .inl (fun _ => 0))), (xl, .inr (2, [.ref bl, .ref no, .ref ro, .int 0]))] sz)) 1 6 (va_A [(ax, .inr (0, [.ref xt, .ref xp, .ref xs, .ref xl, .ref xb, .ref xk, .ref xm, .ref xq, .ref xg, .ref xf, .ref xe, .int 49])), (xb, .inl (dA 6, 3, .inr (.inr (.inr (.inr fb))))), (bk, .inr (5, [.int hd, .ref xl, .ref b1, .ref b2, .ref b3, .ref b4, .int 0, .int 0, .int 0])), (b3, .inl (dA 1, 250, .inl (fun _ => 0))), (xl, .inr (2, [.ref bl, .ref no, .ref ro, .int 0]))] sz) := by
  refine vx_ofW (cc := cX11_makeOfTwo) (maxL := 6) (ret := (some .int)) (by decide) rfl ?_
  intro p e s m args below meth c s₁ B hml hno hv
  obtain ⟨rfl, hsz, hP, hK, hD0, hT, hE⟩ := hv
  have hx := B.exec
  have hb := B.bytes
  have hr := B.returns
  have hw := wz_hw (atoms_spec (ws := wz yX11_makeOfTwo cX11_makeOfTwo 6 (some .int)) B.pre)
  have hown : s.vm.findClass "KindredBooks" = some m.cls := findClass_of_methodNamed B.named
  have hlocks := B.notSynchronized
  have hn := hT.1.use (args := ([.ref ax, .int (nI i), .int y0, .int y1, .int y2] : List Value).toArray)
  subst hsz
  have hD := hD0.self (sz := s.heap.size)
  generalize hAe : va_A [(ax, .inr (0, [.ref xt, .ref xp, .ref xs, .ref xl, .ref xb, .ref xk, .ref xm, .ref xq, .ref xg, .ref xf, .ref xe, .int 49])), (xb, .inl (dA 6, 3, .inr (.inr (.inr (.inr fb))))), (bk, .inr (5, [.int hd, .ref xl, .ref b1, .ref b2, .ref b3, .ref b4, .int 0, .int 0, .int 0])), (b3, .inl (dA 1, 250, .inl (fun _ => 0))), (xl, .inr (2, [.ref bl, .ref no, .ref ro, .int 0]))] s.heap.size = A at hD hE ⊢
  have hA : ∀ q : Nat, s.heap.size ≤ q → A q := fun q h => by rw [← hAe]; exact Or.inr h
  have hS : va_S A s.heap s.heap [] := va_S.rf
  replace hP : va_P D zcl [(ax, .inr (0, [.ref xt, .ref xp, .ref xs, .ref xl, .ref xb, .ref xk, .ref xm, .ref xq, .ref xg, .ref xf, .ref xe, .int 49])), (xb, .inl (dA 6, 3, .inr (.inr (.inr (.inr fb))))), (bk, .inr (5, [.int hd, .ref xl, .ref b1, .ref b2, .ref b3, .ref b4, .int 0, .int 0, .int 0])), (b3, .inl (dA 1, 250, .inl (fun _ => 0))), (xl, .inr (2, [.ref bl, .ref no, .ref ro, .int 0]))] s.heap := hP
  have hl := lv_entry ([.ref ax, .int (nI i), .int y0, .int y1, .int y2]) (n := 6) (Nat.le_of_ble_eq_true rfl)
  rw [lg_entry_eq]
  generalize (lg_sl ([.ref ax, .int (nI i), .int y0, .int y1, .int y2]) ++ List.replicate (6 - (lg_sl ([.ref ax, .int (nI i), .int y0, .int y1, .int y2])).length) Slot.unset).toArray = ls at hl ⊢
  replace hl : lv_has ls 6 [(0, .ref ax), (1, .int (nI i)), (2, .int y0), (3, .int y1), (4, .int y2)] := hl
  refine lv_aload_n hx hb dX11_makeOfTwo_0 rfl (lv_at hl 0 rfl) ?_
  refine lv_iload_n hx hb dX11_makeOfTwo_1 rfl (lv_at hl 1 rfl) ?_
  have hPc := hP.sub (ws' := [(ax, .inr (0, [.ref xt, .ref xp, .ref xs, .ref xl, .ref xb, .ref xk, .ref xm, .ref xq, .ref xg, .ref xf, .ref xe, .int 49])), (xb, .inl (dA 6, 3, .inr (.inr (.inr (.inr fb)))))]) [0, 1] rfl
  have hDc := hD.sub (ws' := [(ax, .inr (0, [.ref xt, .ref xp, .ref xs, .ref xl, .ref xb, .ref xk, .ref xm, .ref xq, .ref xg, .ref xf, .ref xe, .int 49])), (xb, .inl (dA 6, 3, .inr (.inr (.inr (.inr fb)))))]) [0, 1] (by decide) rfl
  have hFc := va_free (wc := [(ax, .inr (0, [.ref xt, .ref xp, .ref xs, .ref xl, .ref xb, .ref xk, .ref xm, .ref xq, .ref xg, .ref xf, .ref xe, .int 49])), (xb, .inl (dA 6, 3, .inr (.inr (.inr (.inr fb)))))]) hD hS hA [0, 1] rfl
  refine va_callq (va_runV (As := [.int (nI i)]) (rest := []) ⟨hx, hb, hml, hown, hw⟩ (c_bookOf l D dA dZ _ ax xt xp xs xl xb xk xm xq xg xf xe i fb bk hi hf) (z_cwV 1 hw mw_603 mw_605 ms_3 mw_1 mw_606 rfl rfl (by decide +kernel) ⟨Nat.le_of_ble_eq_true rfl, Nat.le_of_ble_eq_true rfl⟩) (zPreV hPc hK hDc hT hE hS hFc (va_recv hK hP (ci := 0) (q0 := 0) rfl rfl)) rfl rfl hl.1 rfl (lv_room (Nat.le_of_ble_eq_true rfl)) dX11_makeOfTwo_2 ⟨Nat.le_of_ble_eq_true rfl, Nat.le_of_ble_eq_true rfl⟩) hS (fun q _ h => hFc q h) hFc (fun r_1 u t H1 locs ht hvm hpo hB hz1 hk1 hS => ?_)
  obtain ⟨hP1, hD1⟩ := hB
  rw [ht] at hP1
  obtain ⟨hP, hD⟩ := va_join (wr := [(bk, .inr (5, [.int hd, .ref xl, .ref b1, .ref b2, .ref b3, .ref b4, .int 0, .int 0, .int 0])), (b3, .inl (dA 1, 250, .inl (fun _ => 0))), (xl, .inr (2, [.ref bl, .ref no, .ref ro, .int 0]))]) (w1 := [(ax, .inr (0, [.ref xt, .ref xp, .ref xs, .ref xl, .ref xb, .ref xk, .ref xm, .ref xq, .ref xg, .ref xf, .ref xe, .int 49])), (xb, .inl (dA 6, 3, .inr (.inr (.inr (.inr fb)))))]) hP hD [0, 1] [2, 3, 4] rfl rfl (by decide) (by decide) hk1 hFc hP1 hD1
  generalize H1 = H at hP hS ⊢
  have hP : va_P D zcl [(bk, .inr (5, [.int hd, .ref xl, .ref b1, .ref b2, .ref b3, .ref b4, .int 0, .int 0, .int 0])), (b3, .inl (dA 1, 250, .inl (fun _ => 0))), (xl, .inr (2, [.ref bl, .ref no, .ref ro, .int 0])), (ax, .inr (0, [.ref xt, .ref xp, .ref xs, .ref xl, .ref xb, .ref xk, .ref xm, .ref xq, .ref xg, .ref xf, .ref xe, .int 49])), (xb, .inl (dA 6, 3, .inr (.inr (.inr (.inr fb)))))] H := hP
  have hD : va_D A [(bk, .inr (5, [.int hd, .ref xl, .ref b1, .ref b2, .ref b3, .ref b4, .int 0, .int 0, .int 0])), (b3, .inl (dA 1, 250, .inl (fun _ => 0))), (xl, .inr (2, [.ref bl, .ref no, .ref ro, .int 0])), (ax, .inr (0, [.ref xt, .ref xp, .ref xs, .ref xl, .ref xb, .ref xk, .ref xm, .ref xq, .ref xg, .ref xf, .ref xe, .int 49])), (xb, .inl (dA 6, 3, .inr (.inr (.inr (.inr fb)))))] := hD
  obtain rfl : r_1 = (some bk) := hpo
  refine lv_astore (lv' := [(5, .ref bk), (0, .ref ax), (1, .int (nI i)), (2, .int y0), (3, .int y1), (4, .int y2)]) hx hb dX11_makeOfTwo_5 hl (by decide) rfl (fun ls hl => ?_)
  refine lv_iload_n hx hb dX11_makeOfTwo_7 rfl (lv_at hl 4 rfl) ?_
  refine lv_iload hx hb dX11_makeOfTwo_8 (lv_at hl 5 rfl) ?_
  refine lv_icmp_ne (tgt := 24) hx hb dX11_makeOfTwo_10 (by decide) (fun _ => ?_) (fun zc => absurd zc hne)
  refine lv_aload_n hx hb dX11_makeOfTwo_24 rfl (lv_at hl 1 rfl) ?_
  refine lv_aload hx hb dX11_makeOfTwo_25 (lv_at hl 0 rfl) ?_
  refine lv_iload_n hx hb dX11_makeOfTwo_27 rfl (lv_at hl 4 rfl) ?_
  have hPc := hP.sub (ws' := [(bk, .inr (5, [.int hd, .ref xl, .ref b1, .ref b2, .ref b3, .ref b4, .int 0, .int 0, .int 0])), (b3, .inl (dA 1, 250, .inl (fun _ => 0)))]) [0, 1] rfl
  have hDc := hD.sub (ws' := [(bk, .inr (5, [.int hd, .ref xl, .ref b1, .ref b2, .ref b3, .ref b4, .int 0, .int 0, .int 0])), (b3, .inl (dA 1, 250, .inl (fun _ => 0)))]) [0, 1] (by decide) rfl
  have hFc := va_free (wc := [(bk, .inr (5, [.int hd, .ref xl, .ref b1, .ref b2, .ref b3, .ref b4, .int 0, .int 0, .int 0])), (b3, .inl (dA 1, 250, .inl (fun _ => 0)))]) hD hS hA [0, 1] rfl
  refine zx_call (E0 := "java/util/NoSuchElementException") (vx_runV (As := [.ref bk, .int y1]) (rest := []) ⟨hx, hb, hml, hown, hw⟩ (c_checkLive_no l D dA dZ _ hfl ax bk xl b1 b2 b3 b4 hd 0 y1) (z_cwV 2 hw mw_695 mw_697 ms_12 mw_1 mw_698 rfl rfl (by decide +kernel) ⟨Nat.le_of_ble_eq_true rfl, Nat.le_of_ble_eq_true rfl⟩) (zPreV hPc hK hDc hT hE hS hFc (va_recv hK hP (ci := 0) (q0 := 3) rfl rfl)) rfl rfl hl.1 rfl (lv_room (Nat.le_of_ble_eq_true rfl)) dX11_makeOfTwo_28 ⟨Nat.le_of_ble_eq_true rfl, Nat.le_of_ble_eq_true rfl⟩) hS (fun q _ h => hFc q h) hFc (fun ce q9 H1 locs hz1 hk1 hS hce hcv hcl => ?_)
  exact vx_out (fun x hx => (hno x hx).elim) hlocks hce hcv hcl (fun t ht ha => zX_at hS ht) hS.2.2 (Nat.le_of_ble_eq_true rfl) (Nat.le_of_ble_eq_true rfl)
set_option maxHeartbeats 4000000 in
set_option maxRecDepth 100000 in
/-- join: no such book -/
theorem c_join_bad (l : Launch) (D : va_G) (dA : Nat → ClassId) (dZ : Nat → Nat) (sz : Nat) (hfl : l.stackTraces = false) (ax : Nat) (xt : Nat) (xp : Nat) (xs : Nat) (xl : Nat) (xb : Nat) (xk : Nat) (xm : Nat) (xq : Nat) (xg : Nat) (xf : Nat) (xe : Nat) (b : Int32) (y0 : Int32) (y1 : Int32) (hz : zbad b) : vx_Met l yX11_join (wz yX11_join cX11_join 4 (some .int)) ({ frames := 9, cells := 1, slots := 6, locals := 200 } : Room) (va_Pc [.ref ax, .int b, .int y0, .int y1] (zP D dA dZ [(ax, .inr (0, [.ref xt, .ref xp, .ref xs, .ref xl, .ref xb, .ref xk, .ref xm, .ref xq, .ref xg, .ref xf, .ref xe, .int 49]))] sz)) zNo (zX "java/lang/IndexOutOfBoundsException" (va_A [(ax, .inr (0, [.ref xt, .ref xp, .ref xs, .ref xl, .ref xb, .ref xk, .ref xm, .ref xq, .ref xg, .ref xf, .ref xe, .int 49]))] sz)) 1 6 (va_A [(ax, .inr (0, [.ref xt, .ref xp, .ref xs, .ref xl, .ref xb, .ref xk, .ref xm, .ref xq, .ref xg, .ref xf, .ref xe, .int 49]))] sz) := by
  refine vx_ofW (cc := cX11_join) (maxL := 4) (ret := (some .int)) (by decide) rfl ?_
  intro p e s m args below meth c s₁ B hml hno hv
  obtain ⟨rfl, hsz, hP, hK, hD0, hT, hE⟩ := hv
  have hx := B.exec
  have hb := B.bytes
  have hr := B.returns
  have hw := wz_hw (atoms_spec (ws := wz yX11_join cX11_join 4 (some .int)) B.pre)
  have hown : s.vm.findClass "KindredBooks" = some m.cls := findClass_of_methodNamed B.named
  have hlocks := B.notSynchronized
  have hn := hT.1.use (args := ([.ref ax, .int b, .int y0, .int y1] : List Value).toArray)
  subst hsz
  have hD := hD0.self (sz := s.heap.size)
  generalize hAe : va_A [(ax, .inr (0, [.ref xt, .ref xp, .ref xs, .ref xl, .ref xb, .ref xk, .ref xm, .ref xq, .ref xg, .ref xf, .ref xe, .int 49]))] s.heap.size = A at hD hE ⊢
  have hA : ∀ q : Nat, s.heap.size ≤ q → A q := fun q h => by rw [← hAe]; exact Or.inr h
  have hS : va_S A s.heap s.heap [] := va_S.rf
  replace hP : va_P D zcl [(ax, .inr (0, [.ref xt, .ref xp, .ref xs, .ref xl, .ref xb, .ref xk, .ref xm, .ref xq, .ref xg, .ref xf, .ref xe, .int 49]))] s.heap := hP
  have hl := lv_entry ([.ref ax, .int b, .int y0, .int y1]) (n := 4) (Nat.le_of_ble_eq_true rfl)
  rw [lg_entry_eq]
  generalize (lg_sl ([.ref ax, .int b, .int y0, .int y1]) ++ List.replicate (4 - (lg_sl ([.ref ax, .int b, .int y0, .int y1])).length) Slot.unset).toArray = ls at hl ⊢
  replace hl : lv_has ls 4 [(0, .ref ax), (1, .int b), (2, .int y0), (3, .int y1)] := hl
  refine lv_aload_n hx hb dX11_join_0 rfl (lv_at hl 0 rfl) ?_
  refine lv_iload_n hx hb dX11_join_1 rfl (lv_at hl 1 rfl) ?_
  refine lv_iconst (v := 2) hx hb dX11_join_2 (by decide) ?_
  refine lv_iload_n hx hb dX11_join_3 rfl (lv_at hl 2 rfl) ?_
  refine lv_iload_n hx hb dX11_join_4 rfl (lv_at hl 3 rfl) ?_
  have hPc := hP.sub (ws' := [(ax, .inr (0, [.ref xt, .ref xp, .ref xs, .ref xl, .ref xb, .ref xk, .ref xm, .ref xq, .ref xg, .ref xf, .ref xe, .int 49]))]) [0] rfl
  have hDc := hD.sub (ws' := [(ax, .inr (0, [.ref xt, .ref xp, .ref xs, .ref xl, .ref xb, .ref xk, .ref xm, .ref xq, .ref xg, .ref xf, .ref xe, .int 49]))]) [0] (by decide) rfl
  have hFc := va_free (wc := [(ax, .inr (0, [.ref xt, .ref xp, .ref xs, .ref xl, .ref xb, .ref xk, .ref xm, .ref xq, .ref xg, .ref xf, .ref xe, .int 49]))]) hD hS hA [0] rfl
  refine zx_call (E0 := "java/lang/IndexOutOfBoundsException") (vx_runV (As := [.int b, .int 2, .int y0, .int y1]) (rest := []) ⟨hx, hb, hml, hown, hw⟩ (c_makeOfTwo_bad l D dA dZ _ hfl ax xt xp xs xl xb xk xm xq xg xf xe b 2 y0 y1 hz) (z_cwV 4 hw mw_756 mw_758 ms_15 mw_1 mw_759 rfl rfl (by decide +kernel) ⟨Nat.le_of_ble_eq_true rfl, Nat.le_of_ble_eq_true rfl⟩) (zPreV hPc hK hDc hT hE hS hFc (va_recv hK hP (ci := 0) (q0 := 0) rfl rfl)) rfl rfl hl.1 rfl (lv_room (Nat.le_of_ble_eq_true rfl)) dX11_join_5 ⟨Nat.le_of_ble_eq_true rfl, Nat.le_of_ble_eq_true rfl⟩) hS (fun q _ h => hFc q h) hFc (fun ce q9 H1 locs hz1 hk1 hS hce hcv hcl => ?_)
  exact vx_out (fun x hx => (hno x hx).elim) hlocks hce hcv hcl (fun t ht ha => zX_at hS ht) hS.2.2 (Nat.le_of_ble_eq_true rfl) (Nat.le_of_ble_eq_true rfl)
set_option maxHeartbeats 4000000 in
set_option maxRecDepth 100000 in
/-- join on a fresh object: same -/
theorem c_join_same (l : Launch) (D : va_G) (dA : Nat → ClassId) (dZ : Nat → Nat) (sz : Nat) (hfl : l.stackTraces = false) (ax : Nat) (xt : Nat) (xp : Nat) (xs : Nat) (xl : Nat) (xb : Nat) (xk : Nat) (xm : Nat) (xq : Nat) (xg : Nat) (xf : Nat) (xe : Nat) (i : Nat) (fb : Nat → Option Nat) (bk : Nat) (b1 : Nat) (b2 : Nat) (b3 : Nat) (b4 : Nat) (hd : Int32) (y0 : Int32) (hi : i < 3) (hf : fb i = some bk) : vx_Met l yX11_join (wz yX11_join cX11_join 4 (some .int)) ({ frames := 14, cells := 1, slots := 6, locals := 400 } : Room) (va_Pc [.ref ax, .int (nI i), .int y0, .int y0] (zP D dA dZ [(ax, .inr (0, [.ref xt, .ref xp, .ref xs, .ref xl, .ref xb, .ref xk, .ref xm, .ref xq, .ref xg, .ref xf, .ref xe, .int 49])), (xb, .inl (dA 6, 3, .inr (.inr (.inr (.inr fb)))))] sz)) zNo (zX "java/lang/IllegalArgumentException" (va_A [(ax, .inr (0, [.ref xt, .ref xp, .ref xs, .ref xl, .ref xb, .ref xk, .ref xm, .ref xq, .ref xg, .ref xf, .ref xe, .int 49])), (xb, .inl (dA 6, 3, .inr (.inr (.inr (.inr fb)))))] sz)) 1 6 (va_A [(ax, .inr (0, [.ref xt, .ref xp, .ref xs, .ref xl, .ref xb, .ref xk, .ref xm, .ref xq, .ref xg, .ref xf, .ref xe, .int 49])), (xb, .inl (dA 6, 3, .inr (.inr (.inr (.inr fb)))))] sz) := by
  refine vx_ofW (cc := cX11_join) (maxL := 4) (ret := (some .int)) (by decide) rfl ?_
  intro p e s m args below meth c s₁ B hml hno hv
  obtain ⟨rfl, hsz, hP, hK, hD0, hT, hE⟩ := hv
  have hx := B.exec
  have hb := B.bytes
  have hr := B.returns
  have hw := wz_hw (atoms_spec (ws := wz yX11_join cX11_join 4 (some .int)) B.pre)
  have hown : s.vm.findClass "KindredBooks" = some m.cls := findClass_of_methodNamed B.named
  have hlocks := B.notSynchronized
  have hn := hT.1.use (args := ([.ref ax, .int (nI i), .int y0, .int y0] : List Value).toArray)
  subst hsz
  have hD := hD0.self (sz := s.heap.size)
  generalize hAe : va_A [(ax, .inr (0, [.ref xt, .ref xp, .ref xs, .ref xl, .ref xb, .ref xk, .ref xm, .ref xq, .ref xg, .ref xf, .ref xe, .int 49])), (xb, .inl (dA 6, 3, .inr (.inr (.inr (.inr fb)))))] s.heap.size = A at hD hE ⊢
  have hA : ∀ q : Nat, s.heap.size ≤ q → A q := fun q h => by rw [← hAe]; exact Or.inr h
  have hS : va_S A s.heap s.heap [] := va_S.rf
  replace hP : va_P D zcl [(ax, .inr (0, [.ref xt, .ref xp, .ref xs, .ref xl, .ref xb, .ref xk, .ref xm, .ref xq, .ref xg, .ref xf, .ref xe, .int 49])), (xb, .inl (dA 6, 3, .inr (.inr (.inr (.inr fb)))))] s.heap := hP
  have hl := lv_entry ([.ref ax, .int (nI i), .int y0, .int y0]) (n := 4) (Nat.le_of_ble_eq_true rfl)
  rw [lg_entry_eq]
  generalize (lg_sl ([.ref ax, .int (nI i), .int y0, .int y0]) ++ List.replicate (4 - (lg_sl ([.ref ax, .int (nI i), .int y0, .int y0])).length) Slot.unset).toArray = ls at hl ⊢
  replace hl : lv_has ls 4 [(0, .ref ax), (1, .int (nI i)), (2, .int y0), (3, .int y0)] := hl
  refine lv_aload_n hx hb dX11_join_0 rfl (lv_at hl 0 rfl) ?_
  refine lv_iload_n hx hb dX11_join_1 rfl (lv_at hl 1 rfl) ?_
  refine lv_iconst (v := 2) hx hb dX11_join_2 (by decide) ?_
  refine lv_iload_n hx hb dX11_join_3 rfl (lv_at hl 2 rfl) ?_
  refine lv_iload_n hx hb dX11_join_4 rfl (lv_at hl 3 rfl) ?_
  have hPc := hP.sub (ws' := [(ax, .inr (0, [.ref xt, .ref xp, .ref xs, .ref xl, .ref xb, .ref xk, .ref xm, .ref xq, .ref xg, .ref xf, .ref xe, .int 49])), (xb, .inl (dA 6, 3, .inr (.inr (.inr (.inr fb)))))]) [0, 1] rfl
  have hDc := hD.sub (ws' := [(ax, .inr (0, [.ref xt, .ref xp, .ref xs, .ref xl, .ref xb, .ref xk, .ref xm, .ref xq, .ref xg, .ref xf, .ref xe, .int 49])), (xb, .inl (dA 6, 3, .inr (.inr (.inr (.inr fb)))))]) [0, 1] (by decide) rfl
  have hFc := va_free (wc := [(ax, .inr (0, [.ref xt, .ref xp, .ref xs, .ref xl, .ref xb, .ref xk, .ref xm, .ref xq, .ref xg, .ref xf, .ref xe, .int 49])), (xb, .inl (dA 6, 3, .inr (.inr (.inr (.inr fb)))))]) hD hS hA [0, 1] rfl
  refine zx_call (E0 := "java/lang/IllegalArgumentException") (vx_runV (As := [.int (nI i), .int 2, .int y0, .int y0]) (rest := []) ⟨hx, hb, hml, hown, hw⟩ (c_makeOfTwo_same l D dA dZ _ hfl ax xt xp xs xl xb xk xm xq xg xf xe i fb bk b1 b2 b3 b4 hd 2 y0 hi hf) (z_cwV 4 hw mw_756 mw_758 ms_15 mw_1 mw_759 rfl rfl (by decide +kernel) ⟨Nat.le_of_ble_eq_true rfl, Nat.le_of_ble_eq_true rfl⟩) (zPreV hPc hK hDc hT hE hS hFc (va_recv hK hP (ci := 0) (q0 := 0) rfl rfl)) rfl rfl hl.1 rfl (lv_room (Nat.le_of_ble_eq_true rfl)) dX11_join_5 ⟨Nat.le_of_ble_eq_true rfl, Nat.le_of_ble_eq_true rfl⟩) hS (fun q _ h => hFc q h) hFc (fun ce q9 H1 locs hz1 hk1 hS hce hcv hcl => ?_)
  exact vx_out (fun x hx => (hno x hx).elim) hlocks hce hcv hcl (fun t ht ha => zX_at hS ht) hS.2.2 (Nat.le_of_ble_eq_true rfl) (Nat.le_of_ble_eq_true rfl)
set_option maxHeartbeats 4000000 in
set_option maxRecDepth 100000 in
/-- join on a fresh object: dead -/
theorem c_join_dead (l : Launch) (D : va_G) (dA : Nat → ClassId) (dZ : Nat → Nat) (sz : Nat) (hfl : l.stackTraces = false) (ax : Nat) (xt : Nat) (xp : Nat) (xs : Nat) (xl : Nat) (xb : Nat) (xk : Nat) (xm : Nat) (xq : Nat) (xg : Nat) (xf : Nat) (xe : Nat) (i : Nat) (fb : Nat → Option Nat) (bk : Nat) (b1 : Nat) (b2 : Nat) (b3 : Nat) (b4 : Nat) (hd : Int32) (bl : Nat) (no : Nat) (ro : Nat) (y0 : Int32) (y1 : Int32) (hi : i < 3) (hf : fb i = some bk) (hne : ¬ y0 = y1) : vx_Met l yX11_join (wz yX11_join cX11_join 4 (some .int)) ({ frames := 14, cells := 1, slots := 6, locals := 400 } : Room) (va_Pc [.ref ax, .int (nI i), .int y0, .int y1] (zP D dA dZ [(ax, .inr (0, [.ref xt, .ref xp, .ref xs, .ref xl, .ref xb, .ref xk, .ref xm, .ref xq, .ref xg, .ref xf, .ref xe, .int 49])), (xb, .inl (dA 6, 3, .inr (.inr (.inr (.inr fb))))), (bk, .inr (5, [.int hd, .ref xl, .ref b1, .ref b2, .ref b3, .ref b4, .int 0, .int 0, .int 0])), (b3, .inl (dA 1, 250, .inl (fun _ => 0))), (xl, .inr (2, [.ref bl, .ref no, .ref ro, .int 0]))] sz)) zNo (zX "java/util/NoSuchElementException" (va_A [(ax, .inr (0, [.ref xt, .ref xp, .ref xs, .ref xl, .ref xb, .ref xk, .ref xm, .ref xq, .ref xg, .ref xf, .ref xe, .int 49])), (xb, .inl (dA 6, 3, .inr (.inr (.inr (.inr fb))))), (bk, .inr (5, [.int hd, .ref xl, .ref b1, .ref b2, .ref b3, .ref b4, .int 0, .int 0, .int 0])), (b3, .inl (dA 1, 250, .inl (fun _ => 0))), (xl, .inr (2, [.ref bl, .ref no, .ref ro, .int 0]))] sz)) 1 6 (va_A [(ax, .inr (0, [.ref xt, .ref xp, .ref xs, .ref xl, .ref xb, .ref xk, .ref xm, .ref xq, .ref xg, .ref xf, .ref xe, .int 49])), (xb, .inl (dA 6, 3, .inr (.inr (.inr (.inr fb))))), (bk, .inr (5, [.int hd, .ref xl, .ref b1, .ref b2, .ref b3, .ref b4, .int 0, .int 0, .int 0])), (b3, .inl (dA 1, 250, .inl (fun _ => 0))), (xl, .inr (2, [.ref bl, .ref no, .ref ro, .int 0]))] sz) := by
  refine vx_ofW (cc := cX11_join) (maxL := 4) (ret := (some .int)) (by decide) rfl ?_
  intro p e s m args below meth c s₁ B hml hno hv
  obtain ⟨rfl, hsz, hP, hK, hD0, hT, hE⟩ := hv
  have hx := B.exec
  have hb := B.bytes
  have hr := B.returns
  have hw := wz_hw (atoms_spec (ws := wz yX11_join cX11_join 4 (some .int)) B.pre)
  have hown : s.vm.findClass "KindredBooks" = some m.cls := findClass_of_methodNamed B.named
  have hlocks := B.notSynchronized
  have hn := hT.1.use (args := ([.ref ax, .int (nI i), .int y0, .int y1] : List Value).toArray)
  subst hsz
  have hD := hD0.self (sz := s.heap.size)
  generalize hAe : va_A [(ax, .inr (0, [.ref xt, .ref xp, .ref xs, .ref xl, .ref xb, .ref xk, .ref xm, .ref xq, .ref xg, .ref xf, .ref xe, .int 49])), (xb, .inl (dA 6, 3, .inr (.inr (.inr (.inr fb))))), (bk, .inr (5, [.int hd, .ref xl, .ref b1, .ref b2, .ref b3, .ref b4, .int 0, .int 0, .int 0])), (b3, .inl (dA 1, 250, .inl (fun _ => 0))), (xl, .inr (2, [.ref bl, .ref no, .ref ro, .int 0]))] s.heap.size = A at hD hE ⊢
  have hA : ∀ q : Nat, s.heap.size ≤ q → A q := fun q h => by rw [← hAe]; exact Or.inr h
  have hS : va_S A s.heap s.heap [] := va_S.rf
  replace hP : va_P D zcl [(ax, .inr (0, [.ref xt, .ref xp, .ref xs, .ref xl, .ref xb, .ref xk, .ref xm, .ref xq, .ref xg, .ref xf, .ref xe, .int 49])), (xb, .inl (dA 6, 3, .inr (.inr (.inr (.inr fb))))), (bk, .inr (5, [.int hd, .ref xl, .ref b1, .ref b2, .ref b3, .ref b4, .int 0, .int 0, .int 0])), (b3, .inl (dA 1, 250, .inl (fun _ => 0))), (xl, .inr (2, [.ref bl, .ref no, .ref ro, .int 0]))] s.heap := hP
  have hl := lv_entry ([.ref ax, .int (nI i), .int y0, .int y1]) (n := 4) (Nat.le_of_ble_eq_true rfl)
  rw [lg_entry_eq]
  generalize (lg_sl ([.ref ax, .int (nI i), .int y0, .int y1]) ++ List.replicate (4 - (lg_sl ([.ref ax, .int (nI i), .int y0, .int y1])).length) Slot.unset).toArray = ls at hl ⊢
  replace hl : lv_has ls 4 [(0, .ref ax), (1, .int (nI i)), (2, .int y0), (3, .int y1)] := hl
  refine lv_aload_n hx hb dX11_join_0 rfl (lv_at hl 0 rfl) ?_
  refine lv_iload_n hx hb dX11_join_1 rfl (lv_at hl 1 rfl) ?_
  refine lv_iconst (v := 2) hx hb dX11_join_2 (by decide) ?_
  refine lv_iload_n hx hb dX11_join_3 rfl (lv_at hl 2 rfl) ?_
  refine lv_iload_n hx hb dX11_join_4 rfl (lv_at hl 3 rfl) ?_
  have hPc := hP.sub (ws' := [(ax, .inr (0, [.ref xt, .ref xp, .ref xs, .ref xl, .ref xb, .ref xk, .ref xm, .ref xq, .ref xg, .ref xf, .ref xe, .int 49])), (xb, .inl (dA 6, 3, .inr (.inr (.inr (.inr fb))))), (bk, .inr (5, [.int hd, .ref xl, .ref b1, .ref b2, .ref b3, .ref b4, .int 0, .int 0, .int 0])), (b3, .inl (dA 1, 250, .inl (fun _ => 0))), (xl, .inr (2, [.ref bl, .ref no, .ref ro, .int 0]))]) [0, 1, 2, 3, 4] rfl
  have hDc := hD.sub (ws' := [(ax, .inr (0, [.ref xt, .ref xp, .ref xs, .ref xl, .ref xb, .ref xk, .ref xm, .ref xq, .ref xg, .ref xf, .ref xe, .int 49])), (xb, .inl (dA 6, 3, .inr (.inr (.inr (.inr fb))))), (bk, .inr (5, [.int hd, .ref xl, .ref b1, .ref b2, .ref b3, .ref b4, .int 0, .int 0, .int 0])), (b3, .inl (dA 1, 250, .inl (fun _ => 0))), (xl, .inr (2, [.ref bl, .ref no, .ref ro, .int 0]))]) [0, 1, 2, 3, 4] (by decide) rfl
  have hFc := va_free (wc := [(ax, .inr (0, [.ref xt, .ref xp, .ref xs, .ref xl, .ref xb, .ref xk, .ref xm, .ref xq, .ref xg, .ref xf, .ref xe, .int 49])), (xb, .inl (dA 6, 3, .inr (.inr (.inr (.inr fb))))), (bk, .inr (5, [.int hd, .ref xl, .ref b1, .ref b2, .ref b3, .ref b4, .int 0, .int 0, .int 0])), (b3, .inl (dA 1, 250, .inl (fun _ => 0))), (xl, .inr (2, [.ref bl, .ref no, .ref ro, .int 0]))]) hD hS hA [0, 1, 2, 3, 4] rfl
  refine zx_call (E0 := "java/util/NoSuchElementException") (vx_runV (As := [.int (nI i), .int 2, .int y0, .int y1]) (rest := []) ⟨hx, hb, hml, hown, hw⟩ (c_makeOfTwo_dead l D dA dZ _ hfl ax xt xp xs xl xb xk xm xq xg xf xe i fb bk b1 b2 b3 b4 hd bl no ro 2 y0 y1 hi hf hne) (z_cwV 4 hw mw_756 mw_758 ms_15 mw_1 mw_759 rfl rfl (by decide +kernel) ⟨Nat.le_of_ble_eq_true rfl, Nat.le_of_ble_eq_true rfl⟩) (zPreV hPc hK hDc hT hE hS hFc (va_recv hK hP (ci := 0) (q0 := 0) rfl rfl)) rfl rfl hl.1 rfl (lv_room (Nat.le_of_ble_eq_true rfl)) dX11_join_5 ⟨Nat.le_of_ble_eq_true rfl, Nat.le_of_ble_eq_true rfl⟩) hS (fun q _ h => hFc q h) hFc (fun ce q9 H1 locs hz1 hk1 hS hce hcv hcl => ?_)
  exact vx_out (fun x hx => (hno x hx).elim) hlocks hce hcv hcl (fun t ht ha => zX_at hS ht) hS.2.2 (Nat.le_of_ble_eq_true rfl) (Nat.le_of_ble_eq_true rfl)
set_option maxHeartbeats 4000000 in
set_option maxRecDepth 100000 in
/-- never: no such book -/
theorem c_never_bad (l : Launch) (D : va_G) (dA : Nat → ClassId) (dZ : Nat → Nat) (sz : Nat) (hfl : l.stackTraces = false) (ax : Nat) (xt : Nat) (xp : Nat) (xs : Nat) (xl : Nat) (xb : Nat) (xk : Nat) (xm : Nat) (xq : Nat) (xg : Nat) (xf : Nat) (xe : Nat) (b : Int32) (y0 : Int32) (y1 : Int32) (hz : zbad b) : vx_Met l yX11_never (wz yX11_never cX11_never 4 (some .int)) ({ frames := 9, cells := 1, slots := 6, locals := 200 } : Room) (va_Pc [.ref ax, .int b, .int y0, .int y1] (zP D dA dZ [(ax, .inr (0, [.ref xt, .ref xp, .ref xs, .ref xl, .ref xb, .ref xk, .ref xm, .ref xq, .ref xg, .ref xf, .ref xe, .int 49]))] sz)) zNo (zX "java/lang/IndexOutOfBoundsException" (va_A [(ax, .inr (0, [.ref xt, .ref xp, .ref xs, .ref xl, .ref xb, .ref xk, .ref xm, .ref xq, .ref xg, .ref xf, .ref xe, .int 49]))] sz)) 1 6 (va_A [(ax, .inr (0, [.ref xt, .ref xp, .ref xs, .ref xl, .ref xb, .ref xk, .ref xm, .ref xq, .ref xg, .ref xf, .ref xe, .int 49]))] sz) := by
  refine vx_ofW (cc := cX11_never) (maxL := 4) (ret := (some .int)) (by decide) rfl ?_
  intro p e s m args below meth c s₁ B hml hno hv
  obtain ⟨rfl, hsz, hP, hK, hD0, hT, hE⟩ := hv
  have hx := B.exec
  have hb := B.bytes
  have hr := B.returns
  have hw := wz_hw (atoms_spec (ws := wz yX11_never cX11_never 4 (some .int)) B.pre)
  have hown : s.vm.findClass "KindredBooks" = some m.cls := findClass_of_methodNamed B.named
  have hlocks := B.notSynchronized
  have hn := hT.1.use (args := ([.ref ax, .int b, .int y0, .int y1] : List Value).toArray)
  subst hsz
  have hD := hD0.self (sz := s.heap.size)
  generalize hAe : va_A [(ax, .inr (0, [.ref xt, .ref xp, .ref xs, .ref xl, .ref xb, .ref xk, .ref xm, .ref xq, .ref xg, .ref xf, .ref xe, .int 49]))] s.heap.size = A at hD hE ⊢
  have hA : ∀ q : Nat, s.heap.size ≤ q → A q := fun q h => by rw [← hAe]; exact Or.inr h
  have hS : va_S A s.heap s.heap [] := va_S.rf
  replace hP : va_P D zcl [(ax, .inr (0, [.ref xt, .ref xp, .ref xs, .ref xl, .ref xb, .ref xk, .ref xm, .ref xq, .ref xg, .ref xf, .ref xe, .int 49]))] s.heap := hP
  have hl := lv_entry ([.ref ax, .int b, .int y0, .int y1]) (n := 4) (Nat.le_of_ble_eq_true rfl)
  rw [lg_entry_eq]
  generalize (lg_sl ([.ref ax, .int b, .int y0, .int y1]) ++ List.replicate (4 - (lg_sl ([.ref ax, .int b, .int y0, .int y1])).length) Slot.unset).toArray = ls at hl ⊢
  replace hl : lv_has ls 4 [(0, .ref ax), (1, .int b), (2, .int y0), (3, .int y1)] := hl
  refine lv_aload_n hx hb dX11_never_0 rfl (lv_at hl 0 rfl) ?_
  refine lv_iload_n hx hb dX11_never_1 rfl (lv_at hl 1 rfl) ?_
  refine lv_iconst (v := 3) hx hb dX11_never_2 (by decide) ?_
  refine lv_iload_n hx hb dX11_never_3 rfl (lv_at hl 2 rfl) ?_
  refine lv_iload_n hx hb dX11_never_4 rfl (lv_at hl 3 rfl) ?_
  have hPc := hP.sub (ws' := [(ax, .inr (0, [.ref xt, .ref xp, .ref xs, .ref xl, .ref xb, .ref xk, .ref xm, .ref xq, .ref xg, .ref xf, .ref xe, .int 49]))]) [0] rfl
  have hDc := hD.sub (ws' := [(ax, .inr (0, [.ref xt, .ref xp, .ref xs, .ref xl, .ref xb, .ref xk, .ref xm, .ref xq, .ref xg, .ref xf, .ref xe, .int 49]))]) [0] (by decide) rfl
  have hFc := va_free (wc := [(ax, .inr (0, [.ref xt, .ref xp, .ref xs, .ref xl, .ref xb, .ref xk, .ref xm, .ref xq, .ref xg, .ref xf, .ref xe, .int 49]))]) hD hS hA [0] rfl
  refine zx_call (E0 := "java/lang/IndexOutOfBoundsException") (vx_runV (As := [.int b, .int 3, .int y0, .int y1]) (rest := []) ⟨hx, hb, hml, hown, hw⟩ (c_makeOfTwo_bad l D dA dZ _ hfl ax xt xp xs xl xb xk xm xq xg xf xe b 3 y0 y1 hz) (z_cwV 4 hw mw_756 mw_758 ms_15 mw_1 mw_759 rfl rfl (by decide +kernel) ⟨Nat.le_of_ble_eq_true rfl, Nat.le_of_ble_eq_true rfl⟩) (zPreV hPc hK hDc hT hE hS hFc (va_recv hK hP (ci := 0) (q0 := 0) rfl rfl)) rfl rfl hl.1 rfl (lv_room (Nat.le_of_ble_eq_true rfl)) dX11_never_5 ⟨Nat.le_of_ble_eq_true rfl, Nat.le_of_ble_eq_true rfl⟩) hS (fun q _ h => hFc q h) hFc (fun ce q9 H1 locs hz1 hk1 hS hce hcv hcl => ?_)
  exact vx_out (fun x hx => (hno x hx).elim) hlocks hce hcv hcl (fun t ht ha => zX_at hS ht) hS.2.2 (Nat.le_of_ble_eq_true rfl) (Nat.le_of_ble_eq_true rfl)
set_option maxHeartbeats 4000000 in
set_option maxRecDepth 100000 in
/-- never on a fresh object: same -/
theorem c_never_same (l : Launch) (D : va_G) (dA : Nat → ClassId) (dZ : Nat → Nat) (sz : Nat) (hfl : l.stackTraces = false) (ax : Nat) (xt : Nat) (xp : Nat) (xs : Nat) (xl : Nat) (xb : Nat) (xk : Nat) (xm : Nat) (xq : Nat) (xg : Nat) (xf : Nat) (xe : Nat) (i : Nat) (fb : Nat → Option Nat) (bk : Nat) (b1 : Nat) (b2 : Nat) (b3 : Nat) (b4 : Nat) (hd : Int32) (y0 : Int32) (hi : i < 3) (hf : fb i = some bk) : vx_Met l yX11_never (wz yX11_never cX11_never 4 (some .int)) ({ frames := 14, cells := 1, slots := 6, locals := 400 } : Room) (va_Pc [.ref ax, .int (nI i), .int y0, .int y0] (zP D dA dZ [(ax, .inr (0, [.ref xt, .ref xp, .ref xs, .ref xl, .ref xb, .ref xk, .ref xm, .ref xq, .ref xg, .ref xf, .ref xe, .int 49])), (xb, .inl (dA 6, 3, .inr (.inr (.inr (.inr fb)))))] sz)) zNo (zX "java/lang/IllegalArgumentException" (va_A [(ax, .inr (0, [.ref xt, .ref xp, .ref xs, .ref xl, .ref xb, .ref xk, .ref xm, .ref xq, .ref xg, .ref xf, .ref xe, .int 49])), (xb, .inl (dA 6, 3, .inr (.inr (.inr (.inr fb)))))] sz)) 1 6 (va_A [(ax, .inr (0, [.ref xt, .ref xp, .ref xs, .ref xl, .ref xb, .ref xk, .ref xm, .ref xq, .ref xg, .ref xf, .ref xe, .int 49])), (xb, .inl (dA 6, 3, .inr (.inr (.inr (.inr fb)))))] sz) := by
  refine vx_ofW (cc := cX11_never) (maxL := 4) (ret := (some .int)) (by decide) rfl ?_
  intro p e s m args below meth c s₁ B hml hno hv
  obtain ⟨rfl, hsz, hP, hK, hD0, hT, hE⟩ := hv
  have hx := B.exec
  have hb := B.bytes
  have hr := B.returns
  have hw := wz_hw (atoms_spec (ws := wz yX11_never cX11_never 4 (some .int)) B.pre)
  have hown : s.vm.findClass "KindredBooks" = some m.cls := findClass_of_methodNamed B.named
  have hlocks := B.notSynchronized
  have hn := hT.1.use (args := ([.ref ax, .int (nI i), .int y0, .int y0] : List Value).toArray)
  subst hsz
  have hD := hD0.self (sz := s.heap.size)
  generalize hAe : va_A [(ax, .inr (0, [.ref xt, .ref xp, .ref xs, .ref xl, .ref xb, .ref xk, .ref xm, .ref xq, .ref xg, .ref xf, .ref xe, .int 49])), (xb, .inl (dA 6, 3, .inr (.inr (.inr (.inr fb)))))] s.heap.size = A at hD hE ⊢
  have hA : ∀ q : Nat, s.heap.size ≤ q → A q := fun q h => by rw [← hAe]; exact Or.inr h
  have hS : va_S A s.heap s.heap [] := va_S.rf
  replace hP : va_P D zcl [(ax, .inr (0, [.ref xt, .ref xp, .ref xs, .ref xl, .ref xb, .ref xk, .ref xm, .ref xq, .ref xg, .ref xf, .ref xe, .int 49])), (xb, .inl (dA 6, 3, .inr (.inr (.inr (.inr fb)))))] s.heap := hP
  have hl := lv_entry ([.ref ax, .int (nI i), .int y0, .int y0]) (n := 4) (Nat.le_of_ble_eq_true rfl)
  rw [lg_entry_eq]
  generalize (lg_sl ([.ref ax, .int (nI i), .int y0, .int y0]) ++ List.replicate (4 - (lg_sl ([.ref ax, .int (nI i), .int y0, .int y0])).length) Slot.unset).toArray = ls at hl ⊢
  replace hl : lv_has ls 4 [(0, .ref ax), (1, .int (nI i)), (2, .int y0), (3, .int y0)] := hl
  refine lv_aload_n hx hb dX11_never_0 rfl (lv_at hl 0 rfl) ?_
  refine lv_iload_n hx hb dX11_never_1 rfl (lv_at hl 1 rfl) ?_
  refine lv_iconst (v := 3) hx hb dX11_never_2 (by decide) ?_
  refine lv_iload_n hx hb dX11_never_3 rfl (lv_at hl 2 rfl) ?_
  refine lv_iload_n hx hb dX11_never_4 rfl (lv_at hl 3 rfl) ?_
  have hPc := hP.sub (ws' := [(ax, .inr (0, [.ref xt, .ref xp, .ref xs, .ref xl, .ref xb, .ref xk, .ref xm, .ref xq, .ref xg, .ref xf, .ref xe, .int 49])), (xb, .inl (dA 6, 3, .inr (.inr (.inr (.inr fb)))))]) [0, 1] rfl
  have hDc := hD.sub (ws' := [(ax, .inr (0, [.ref xt, .ref xp, .ref xs, .ref xl, .ref xb, .ref xk, .ref xm, .ref xq, .ref xg, .ref xf, .ref xe, .int 49])), (xb, .inl (dA 6, 3, .inr (.inr (.inr (.inr fb)))))]) [0, 1] (by decide) rfl
  have hFc := va_free (wc := [(ax, .inr (0, [.ref xt, .ref xp, .ref xs, .ref xl, .ref xb, .ref xk, .ref xm, .ref xq, .ref xg, .ref xf, .ref xe, .int 49])), (xb, .inl (dA 6, 3, .inr (.inr (.inr (.inr fb)))))]) hD hS hA [0, 1] rfl
  refine zx_call (E0 := "java/lang/IllegalArgumentException") (vx_runV (As := [.int (nI i), .int 3, .int y0, .int y0]) (rest := []) ⟨hx, hb, hml, hown, hw⟩ (c_makeOfTwo_same l D dA dZ _ hfl ax xt xp xs xl xb xk xm xq xg xf xe i fb bk b1 b2 b3 b4 hd 3 y0 hi hf) (z_cwV 4 hw mw_756 mw_758 ms_15 mw_1 mw_759 rfl rfl (by decide +kernel) ⟨Nat.le_of_ble_eq_true rfl, Nat.le_of_ble_eq_true rfl⟩) (zPreV hPc hK hDc hT hE hS hFc (va_recv hK hP (ci := 0) (q0 := 0) rfl rfl)) rfl rfl hl.1 rfl (lv_room (Nat.le_of_ble_eq_true rfl)) dX11_never_5 ⟨Nat.le_of_ble_eq_true rfl, Nat.le_of_ble_eq_true rfl⟩) hS (fun q _ h => hFc q h) hFc (fun ce q9 H1 locs hz1 hk1 hS hce hcv hcl => ?_)
  exact vx_out (fun x hx => (hno x hx).elim) hlocks hce hcv hcl (fun t ht ha => zX_at hS ht) hS.2.2 (Nat.le_of_ble_eq_true rfl) (Nat.le_of_ble_eq_true rfl)
set_option maxHeartbeats 4000000 in
set_option maxRecDepth 100000 in
/-- never on a fresh object: dead -/
theorem c_never_dead (l : Launch) (D : va_G) (dA : Nat → ClassId) (dZ : Nat → Nat) (sz : Nat) (hfl : l.stackTraces = false) (ax : Nat) (xt : Nat) (xp : Nat) (xs : Nat) (xl : Nat) (xb : Nat) (xk : Nat) (xm : Nat) (xq : Nat) (xg : Nat) (xf : Nat) (xe : Nat) (i : Nat) (fb : Nat → Option Nat) (bk : Nat) (b1 : Nat) (b2 : Nat) (b3 : Nat) (b4 : Nat) (hd : Int32) (bl : Nat) (no : Nat) (ro : Nat) (y0 : Int32) (y1 : Int32) (hi : i < 3) (hf : fb i = some bk) (hne : ¬ y0 = y1) : vx_Met l yX11_never (wz yX11_never cX11_never 4 (some .int)) ({ frames := 14, cells := 1, slots := 6, locals := 400 } : Room) (va_Pc [.ref ax, .int (nI i), .int y0, .int y1] (zP D dA dZ [(ax, .inr (0, [.ref xt, .ref xp, .ref xs, .ref xl, .ref xb, .ref xk, .ref xm, .ref xq, .ref xg, .ref xf, .ref xe, .int 49])), (xb, .inl (dA 6, 3, .inr (.inr (.inr (.inr fb))))), (bk, .inr (5, [.int hd, .ref xl, .ref b1, .ref b2, .ref b3, .ref b4, .int 0, .int 0, .int 0])), (b3, .inl (dA 1, 250, .inl (fun _ => 0))), (xl, .inr (2, [.ref bl, .ref no, .ref ro, .int 0]))] sz)) zNo (zX "java/util/NoSuchElementException" (va_A [(ax, .inr (0, [.ref xt, .ref xp, .ref xs, .ref xl, .ref xb, .ref xk, .ref xm, .ref xq, .ref xg, .ref xf, .ref xe, .int 49])), (xb, .inl (dA 6, 3, .inr (.inr (.inr (.inr fb))))), (bk, .inr (5, [.int hd, .ref xl, .ref b1, .ref b2, .ref b3, .ref b4, .int 0, .int 0, .int 0])), (b3, .inl (dA 1, 250, .inl (fun _ => 0))), (xl, .inr (2, [.ref bl, .ref no, .ref ro, .int 0]))] sz)) 1 6 (va_A [(ax, .inr (0, [.ref xt, .ref xp, .ref xs, .ref xl, .ref xb, .ref xk, .ref xm, .ref xq, .ref xg, .ref xf, .ref xe, .int 49])), (xb, .inl (dA 6, 3, .inr (.inr (.inr (.inr fb))))), (bk, .inr (5, [.int hd, .ref xl, .ref b1, .ref b2, .ref b3, .ref b4, .int 0, .int 0, .int 0])), (b3, .inl (dA 1, 250, .inl (fun _ => 0))), (xl, .inr (2, [.ref bl, .ref no, .ref ro, .int 0]))] sz) := by
  refine vx_ofW (cc := cX11_never) (maxL := 4) (ret := (some .int)) (by decide) rfl ?_
  intro p e s m args below meth c s₁ B hml hno hv
  obtain ⟨rfl, hsz, hP, hK, hD0, hT, hE⟩ := hv
  have hx := B.exec
  have hb := B.bytes
  have hr := B.returns
  have hw := wz_hw (atoms_spec (ws := wz yX11_never cX11_never 4 (some .int)) B.pre)
  have hown : s.vm.findClass "KindredBooks" = some m.cls := findClass_of_methodNamed B.named
  have hlocks := B.notSynchronized
  have hn := hT.1.use (args := ([.ref ax, .int (nI i), .int y0, .int y1] : List Value).toArray)
  subst hsz
  have hD := hD0.self (sz := s.heap.size)
  generalize hAe : va_A [(ax, .inr (0, [.ref xt, .ref xp, .ref xs, .ref xl, .ref xb, .ref xk, .ref xm, .ref xq, .ref xg, .ref xf, .ref xe, .int 49])), (xb, .inl (dA 6, 3, .inr (.inr (.inr (.inr fb))))), (bk, .inr (5, [.int hd, .ref xl, .ref b1, .ref b2, .ref b3, .ref b4, .int 0, .int 0, .int 0])), (b3, .inl (dA 1, 250, .inl (fun _ => 0))), (xl, .inr (2, [.ref bl, .ref no, .ref ro, .int 0]))] s.heap.size = A at hD hE ⊢
  have hA : ∀ q : Nat, s.heap.size ≤ q → A q := fun q h => by rw [← hAe]; exact Or.inr h
  have hS : va_S A s.heap s.heap [] := va_S.rf
  replace hP : va_P D zcl [(ax, .inr (0, [.ref xt, .ref xp, .ref xs, .ref xl, .ref xb, .ref xk, .ref xm, .ref xq, .ref xg, .ref xf, .ref xe, .int 49])), (xb, .inl (dA 6, 3, .inr (.inr (.inr (.inr fb))))), (bk, .inr (5, [.int hd, .ref xl, .ref b1, .ref b2, .ref b3, .ref b4, .int 0, .int 0, .int 0])), (b3, .inl (dA 1, 250, .inl (fun _ => 0))), (xl, .inr (2, [.ref bl, .ref no, .ref ro, .int 0]))] s.heap := hP
  have hl := lv_entry ([.ref ax, .int (nI i), .int y0, .int y1]) (n := 4) (Nat.le_of_ble_eq_true rfl)
  rw [lg_entry_eq]
  generalize (lg_sl ([.ref ax, .int (nI i), .int y0, .int y1]) ++ List.replicate (4 - (lg_sl ([.ref ax, .int (nI i), .int y0, .int y1])).length) Slot.unset).toArray = ls at hl ⊢
  replace hl : lv_has ls 4 [(0, .ref ax), (1, .int (nI i)), (2, .int y0), (3, .int y1)] := hl
  refine lv_aload_n hx hb dX11_never_0 rfl (lv_at hl 0 rfl) ?_
  refine lv_iload_n hx hb dX11_never_1 rfl (lv_at hl 1 rfl) ?_
  refine lv_iconst (v := 3) hx hb dX11_never_2 (by decide) ?_
  refine lv_iload_n hx hb dX11_never_3 rfl (lv_at hl 2 rfl) ?_
  refine lv_iload_n hx hb dX11_never_4 rfl (lv_at hl 3 rfl) ?_
  have hPc := hP.sub (ws' := [(ax, .inr (0, [.ref xt, .ref xp, .ref xs, .ref xl, .ref xb, .ref xk, .ref xm, .ref xq, .ref xg, .ref xf, .ref xe, .int 49])), (xb, .inl (dA 6, 3, .inr (.inr (.inr (.inr fb))))), (bk, .inr (5, [.int hd, .ref xl, .ref b1, .ref b2, .ref b3, .ref b4, .int 0, .int 0, .int 0])), (b3, .inl (dA 1, 250, .inl (fun _ => 0))), (xl, .inr (2, [.ref bl, .ref no, .ref ro, .int 0]))]) [0, 1, 2, 3, 4] rfl
  have hDc := hD.sub (ws' := [(ax, .inr (0, [.ref xt, .ref xp, .ref xs, .ref xl, .ref xb, .ref xk, .ref xm, .ref xq, .ref xg, .ref xf, .ref xe, .int 49])), (xb, .inl (dA 6, 3, .inr (.inr (.inr (.inr fb))))), (bk, .inr (5, [.int hd, .ref xl, .ref b1, .ref b2, .ref b3, .ref b4, .int 0, .int 0, .int 0])), (b3, .inl (dA 1, 250, .inl (fun _ => 0))), (xl, .inr (2, [.ref bl, .ref no, .ref ro, .int 0]))]) [0, 1, 2, 3, 4] (by decide) rfl
  have hFc := va_free (wc := [(ax, .inr (0, [.ref xt, .ref xp, .ref xs, .ref xl, .ref xb, .ref xk, .ref xm, .ref xq, .ref xg, .ref xf, .ref xe, .int 49])), (xb, .inl (dA 6, 3, .inr (.inr (.inr (.inr fb))))), (bk, .inr (5, [.int hd, .ref xl, .ref b1, .ref b2, .ref b3, .ref b4, .int 0, .int 0, .int 0])), (b3, .inl (dA 1, 250, .inl (fun _ => 0))), (xl, .inr (2, [.ref bl, .ref no, .ref ro, .int 0]))]) hD hS hA [0, 1, 2, 3, 4] rfl
  refine zx_call (E0 := "java/util/NoSuchElementException") (vx_runV (As := [.int (nI i), .int 3, .int y0, .int y1]) (rest := []) ⟨hx, hb, hml, hown, hw⟩ (c_makeOfTwo_dead l D dA dZ _ hfl ax xt xp xs xl xb xk xm xq xg xf xe i fb bk b1 b2 b3 b4 hd bl no ro 3 y0 y1 hi hf hne) (z_cwV 4 hw mw_756 mw_758 ms_15 mw_1 mw_759 rfl rfl (by decide +kernel) ⟨Nat.le_of_ble_eq_true rfl, Nat.le_of_ble_eq_true rfl⟩) (zPreV hPc hK hDc hT hE hS hFc (va_recv hK hP (ci := 0) (q0 := 0) rfl rfl)) rfl rfl hl.1 rfl (lv_room (Nat.le_of_ble_eq_true rfl)) dX11_never_5 ⟨Nat.le_of_ble_eq_true rfl, Nat.le_of_ble_eq_true rfl⟩) hS (fun q _ h => hFc q h) hFc (fun ce q9 H1 locs hz1 hk1 hS hce hcv hcl => ?_)
  exact vx_out (fun x hx => (hno x hx).elim) hlocks hce hcv hcl (fun t ht ha => zX_at hS ht) hS.2.2 (Nat.le_of_ble_eq_true rfl) (Nat.le_of_ble_eq_true rfl)
set_option maxHeartbeats 4000000 in
set_option maxRecDepth 100000 in
/-- member: no such book -/
theorem c_member_bad (l : Launch) (D : va_G) (dA : Nat → ClassId) (dZ : Nat → Nat) (sz : Nat) (hfl : l.stackTraces = false) (ax : Nat) (xt : Nat) (xp : Nat) (xs : Nat) (xl : Nat) (xb : Nat) (xk : Nat) (xm : Nat) (xq : Nat) (xg : Nat) (xf : Nat) (xe : Nat) (b : Int32) (y0 : Int32) (y1 : Int32) (hz : zbad b) : vx_Met l yX11_member (wz yX11_member cX11_member 4 (some .int)) ({ frames := 9, cells := 1, slots := 6, locals := 200 } : Room) (va_Pc [.ref ax, .int b, .int y0, .int y1] (zP D dA dZ [(ax, .inr (0, [.ref xt, .ref xp, .ref xs, .ref xl, .ref xb, .ref xk, .ref xm, .ref xq, .ref xg, .ref xf, .ref xe, .int 49]))] sz)) zNo (zX "java/lang/IndexOutOfBoundsException" (va_A [(ax, .inr (0, [.ref xt, .ref xp, .ref xs, .ref xl, .ref xb, .ref xk, .ref xm, .ref xq, .ref xg, .ref xf, .ref xe, .int 49]))] sz)) 1 6 (va_A [(ax, .inr (0, [.ref xt, .ref xp, .ref xs, .ref xl, .ref xb, .ref xk, .ref xm, .ref xq, .ref xg, .ref xf, .ref xe, .int 49]))] sz) := by
  refine vx_ofW (cc := cX11_member) (maxL := 4) (ret := (some .int)) (by decide) rfl ?_
  intro p e s m args below meth c s₁ B hml hno hv
  obtain ⟨rfl, hsz, hP, hK, hD0, hT, hE⟩ := hv
  have hx := B.exec
  have hb := B.bytes
  have hr := B.returns
  have hw := wz_hw (atoms_spec (ws := wz yX11_member cX11_member 4 (some .int)) B.pre)
  have hown : s.vm.findClass "KindredBooks" = some m.cls := findClass_of_methodNamed B.named
  have hlocks := B.notSynchronized
  have hn := hT.1.use (args := ([.ref ax, .int b, .int y0, .int y1] : List Value).toArray)
  subst hsz
  have hD := hD0.self (sz := s.heap.size)
  generalize hAe : va_A [(ax, .inr (0, [.ref xt, .ref xp, .ref xs, .ref xl, .ref xb, .ref xk, .ref xm, .ref xq, .ref xg, .ref xf, .ref xe, .int 49]))] s.heap.size = A at hD hE ⊢
  have hA : ∀ q : Nat, s.heap.size ≤ q → A q := fun q h => by rw [← hAe]; exact Or.inr h
  have hS : va_S A s.heap s.heap [] := va_S.rf
  replace hP : va_P D zcl [(ax, .inr (0, [.ref xt, .ref xp, .ref xs, .ref xl, .ref xb, .ref xk, .ref xm, .ref xq, .ref xg, .ref xf, .ref xe, .int 49]))] s.heap := hP
  have hl := lv_entry ([.ref ax, .int b, .int y0, .int y1]) (n := 4) (Nat.le_of_ble_eq_true rfl)
  rw [lg_entry_eq]
  generalize (lg_sl ([.ref ax, .int b, .int y0, .int y1]) ++ List.replicate (4 - (lg_sl ([.ref ax, .int b, .int y0, .int y1])).length) Slot.unset).toArray = ls at hl ⊢
  replace hl : lv_has ls 4 [(0, .ref ax), (1, .int b), (2, .int y0), (3, .int y1)] := hl
  refine lv_aload_n hx hb dX11_member_0 rfl (lv_at hl 0 rfl) ?_
  refine lv_iload_n hx hb dX11_member_1 rfl (lv_at hl 1 rfl) ?_
  refine lv_iconst (v := 4) hx hb dX11_member_2 (by decide) ?_
  refine lv_iload_n hx hb dX11_member_3 rfl (lv_at hl 2 rfl) ?_
  refine lv_iload_n hx hb dX11_member_4 rfl (lv_at hl 3 rfl) ?_
  have hPc := hP.sub (ws' := [(ax, .inr (0, [.ref xt, .ref xp, .ref xs, .ref xl, .ref xb, .ref xk, .ref xm, .ref xq, .ref xg, .ref xf, .ref xe, .int 49]))]) [0] rfl
  have hDc := hD.sub (ws' := [(ax, .inr (0, [.ref xt, .ref xp, .ref xs, .ref xl, .ref xb, .ref xk, .ref xm, .ref xq, .ref xg, .ref xf, .ref xe, .int 49]))]) [0] (by decide) rfl
  have hFc := va_free (wc := [(ax, .inr (0, [.ref xt, .ref xp, .ref xs, .ref xl, .ref xb, .ref xk, .ref xm, .ref xq, .ref xg, .ref xf, .ref xe, .int 49]))]) hD hS hA [0] rfl
  refine zx_call (E0 := "java/lang/IndexOutOfBoundsException") (vx_runV (As := [.int b, .int 4, .int y0, .int y1]) (rest := []) ⟨hx, hb, hml, hown, hw⟩ (c_makeOfTwo_bad l D dA dZ _ hfl ax xt xp xs xl xb xk xm xq xg xf xe b 4 y0 y1 hz) (z_cwV 4 hw mw_756 mw_758 ms_15 mw_1 mw_759 rfl rfl (by decide +kernel) ⟨Nat.le_of_ble_eq_true rfl, Nat.le_of_ble_eq_true rfl⟩) (zPreV hPc hK hDc hT hE hS hFc (va_recv hK hP (ci := 0) (q0 := 0) rfl rfl)) rfl rfl hl.1 rfl (lv_room (Nat.le_of_ble_eq_true rfl)) dX11_member_5 ⟨Nat.le_of_ble_eq_true rfl, Nat.le_of_ble_eq_true rfl⟩) hS (fun q _ h => hFc q h) hFc (fun ce q9 H1 locs hz1 hk1 hS hce hcv hcl => ?_)
  exact vx_out (fun x hx => (hno x hx).elim) hlocks hce hcv hcl (fun t ht ha => zX_at hS ht) hS.2.2 (Nat.le_of_ble_eq_true rfl) (Nat.le_of_ble_eq_true rfl)
set_option maxHeartbeats 4000000 in
set_option maxRecDepth 100000 in
/-- member on a fresh object: same -/
theorem c_member_same (l : Launch) (D : va_G) (dA : Nat → ClassId) (dZ : Nat → Nat) (sz : Nat) (hfl : l.stackTraces = false) (ax : Nat) (xt : Nat) (xp : Nat) (xs : Nat) (xl : Nat) (xb : Nat) (xk : Nat) (xm : Nat) (xq : Nat) (xg : Nat) (xf : Nat) (xe : Nat) (i : Nat) (fb : Nat → Option Nat) (bk : Nat) (b1 : Nat) (b2 : Nat) (b3 : Nat) (b4 : Nat) (hd : Int32) (y0 : Int32) (hi : i < 3) (hf : fb i = some bk) : vx_Met l yX11_member (wz yX11_member cX11_member 4 (some .int)) ({ frames := 14, cells := 1, slots := 6, locals := 400 } : Room) (va_Pc [.ref ax, .int (nI i), .int y0, .int y0] (zP D dA dZ [(ax, .inr (0, [.ref xt, .ref xp, .ref xs, .ref xl, .ref xb, .ref xk, .ref xm, .ref xq, .ref xg, .ref xf, .ref xe, .int 49])), (xb, .inl (dA 6, 3, .inr (.inr (.inr (.inr fb)))))] sz)) zNo (zX "java/lang/IllegalArgumentException" (va_A [(ax, .inr (0, [.ref xt, .ref xp, .ref xs, .ref xl, .ref xb, .ref xk, .ref xm, .ref xq, .ref xg, .ref xf, .ref xe, .int 49])), (xb, .inl (dA 6, 3, .inr (.inr (.inr (.inr fb)))))] sz)) 1 6 (va_A [(ax, .inr (0, [.ref xt, .ref xp, .ref xs, .ref xl, .ref xb, .ref xk, .ref xm, .ref xq, .ref xg, .ref xf, .ref xe, .int 49])), (xb, .inl (dA 6, 3, .inr (.inr (.inr (.inr fb)))))] sz) := by
  refine vx_ofW (cc := cX11_member) (maxL := 4) (ret := (some .int)) (by decide) rfl ?_
  intro p e s m args below meth c s₁ B hml hno hv
  obtain ⟨rfl, hsz, hP, hK, hD0, hT, hE⟩ := hv
  have hx := B.exec
  have hb := B.bytes
  have hr := B.returns
  have hw := wz_hw (atoms_spec (ws := wz yX11_member cX11_member 4 (some .int)) B.pre)
  have hown : s.vm.findClass "KindredBooks" = some m.cls := findClass_of_methodNamed B.named
  have hlocks := B.notSynchronized
  have hn := hT.1.use (args := ([.ref ax, .int (nI i), .int y0, .int y0] : List Value).toArray)
  subst hsz
  have hD := hD0.self (sz := s.heap.size)
  generalize hAe : va_A [(ax, .inr (0, [.ref xt, .ref xp, .ref xs, .ref xl, .ref xb, .ref xk, .ref xm, .ref xq, .ref xg, .ref xf, .ref xe, .int 49])), (xb, .inl (dA 6, 3, .inr (.inr (.inr (.inr fb)))))] s.heap.size = A at hD hE ⊢
  have hA : ∀ q : Nat, s.heap.size ≤ q → A q := fun q h => by rw [← hAe]; exact Or.inr h
  have hS : va_S A s.heap s.heap [] := va_S.rf
  replace hP : va_P D zcl [(ax, .inr (0, [.ref xt, .ref xp, .ref xs, .ref xl, .ref xb, .ref xk, .ref xm, .ref xq, .ref xg, .ref xf, .ref xe, .int 49])), (xb, .inl (dA 6, 3, .inr (.inr (.inr (.inr fb)))))] s.heap := hP
  have hl := lv_entry ([.ref ax, .int (nI i), .int y0, .int y0]) (n := 4) (Nat.le_of_ble_eq_true rfl)
  rw [lg_entry_eq]
  generalize (lg_sl ([.ref ax, .int (nI i), .int y0, .int y0]) ++ List.replicate (4 - (lg_sl ([.ref ax, .int (nI i), .int y0, .int y0])).length) Slot.unset).toArray = ls at hl ⊢
  replace hl : lv_has ls 4 [(0, .ref ax), (1, .int (nI i)), (2, .int y0), (3, .int y0)] := hl
  refine lv_aload_n hx hb dX11_member_0 rfl (lv_at hl 0 rfl) ?_
  refine lv_iload_n hx hb dX11_member_1 rfl (lv_at hl 1 rfl) ?_
  refine lv_iconst (v := 4) hx hb dX11_member_2 (by decide) ?_
  refine lv_iload_n hx hb dX11_member_3 rfl (lv_at hl 2 rfl) ?_
  refine lv_iload_n hx hb dX11_member_4 rfl (lv_at hl 3 rfl) ?_
  have hPc := hP.sub (ws' := [(ax, .inr (0, [.ref xt, .ref xp, .ref xs, .ref xl, .ref xb, .ref xk, .ref xm, .ref xq, .ref xg, .ref xf, .ref xe, .int 49])), (xb, .inl (dA 6, 3, .inr (.inr (.inr (.inr fb)))))]) [0, 1] rfl
  have hDc := hD.sub (ws' := [(ax, .inr (0, [.ref xt, .ref xp, .ref xs, .ref xl, .ref xb, .ref xk, .ref xm, .ref xq, .ref xg, .ref xf, .ref xe, .int 49])), (xb, .inl (dA 6, 3, .inr (.inr (.inr (.inr fb)))))]) [0, 1] (by decide) rfl
  have hFc := va_free (wc := [(ax, .inr (0, [.ref xt, .ref xp, .ref xs, .ref xl, .ref xb, .ref xk, .ref xm, .ref xq, .ref xg, .ref xf, .ref xe, .int 49])), (xb, .inl (dA 6, 3, .inr (.inr (.inr (.inr fb)))))]) hD hS hA [0, 1] rfl
  refine zx_call (E0 := "java/lang/IllegalArgumentException") (vx_runV (As := [.int (nI i), .int 4, .int y0, .int y0]) (rest := []) ⟨hx, hb, hml, hown, hw⟩ (c_makeOfTwo_same l D dA dZ _ hfl ax xt xp xs xl xb xk xm xq xg xf xe i fb bk b1 b2 b3 b4 hd 4 y0 hi hf) (z_cwV 4 hw mw_756 mw_758 ms_15 mw_1 mw_759 rfl rfl (by decide +kernel) ⟨Nat.le_of_ble_eq_true rfl, Nat.le_of_ble_eq_true rfl⟩) (zPreV hPc hK hDc hT hE hS hFc (va_recv hK hP (ci := 0) (q0 := 0) rfl rfl)) rfl rfl hl.1 rfl (lv_room (Nat.le_of_ble_eq_true rfl)) dX11_member_5 ⟨Nat.le_of_ble_eq_true rfl, Nat.le_of_ble_eq_true rfl⟩) hS (fun q _ h => hFc q h) hFc (fun ce q9 H1 locs hz1 hk1 hS hce hcv hcl => ?_)
  exact vx_out (fun x hx => (hno x hx).elim) hlocks hce hcv hcl (fun t ht ha => zX_at hS ht) hS.2.2 (Nat.le_of_ble_eq_true rfl) (Nat.le_of_ble_eq_true rfl)
set_option maxHeartbeats 4000000 in
set_option maxRecDepth 100000 in
/-- member on a fresh object: dead -/
theorem c_member_dead (l : Launch) (D : va_G) (dA : Nat → ClassId) (dZ : Nat → Nat) (sz : Nat) (hfl : l.stackTraces = false) (ax : Nat) (xt : Nat) (xp : Nat) (xs : Nat) (xl : Nat) (xb : Nat) (xk : Nat) (xm : Nat) (xq : Nat) (xg : Nat) (xf : Nat) (xe : Nat) (i : Nat) (fb : Nat → Option Nat) (bk : Nat) (b1 : Nat) (b2 : Nat) (b3 : Nat) (b4 : Nat) (hd : Int32) (bl : Nat) (no : Nat) (ro : Nat) (y0 : Int32) (y1 : Int32) (hi : i < 3) (hf : fb i = some bk) (hne : ¬ y0 = y1) : vx_Met l yX11_member (wz yX11_member cX11_member 4 (some .int)) ({ frames := 14, cells := 1, slots := 6, locals := 400 } : Room) (va_Pc [.ref ax, .int (nI i), .int y0, .int y1] (zP D dA dZ [(ax, .inr (0, [.ref xt, .ref xp, .ref xs, .ref xl, .ref xb, .ref xk, .ref xm, .ref xq, .ref xg, .ref xf, .ref xe, .int 49])), (xb, .inl (dA 6, 3, .inr (.inr (.inr (.inr fb))))), (bk, .inr (5, [.int hd, .ref xl, .ref b1, .ref b2, .ref b3, .ref b4, .int 0, .int 0, .int 0])), (b3, .inl (dA 1, 250, .inl (fun _ => 0))), (xl, .inr (2, [.ref bl, .ref no, .ref ro, .int 0]))] sz)) zNo (zX "java/util/NoSuchElementException" (va_A [(ax, .inr (0, [.ref xt, .ref xp, .ref xs, .ref xl, .ref xb, .ref xk, .ref xm, .ref xq, .ref xg, .ref xf, .ref xe, .int 49])), (xb, .inl (dA 6, 3, .inr (.inr (.inr (.inr fb))))), (bk, .inr (5, [.int hd, .ref xl, .ref b1, .ref b2, .ref b3, .ref b4, .int 0, .int 0, .int 0])), (b3, .inl (dA 1, 250, .inl (fun _ => 0))), (xl, .inr (2, [.ref bl, .ref no, .ref ro, .int 0]))] sz)) 1 6 (va_A [(ax, .inr (0, [.ref xt, .ref xp, .ref xs, .ref xl, .ref xb, .ref xk, .ref xm, .ref xq, .ref xg, .ref xf, .ref xe, .int 49])), (xb, .inl (dA 6, 3, .inr (.inr (.inr (.inr fb))))), (bk, .inr (5, [.int hd, .ref xl, .ref b1, .ref b2, .ref b3, .ref b4, .int 0, .int 0, .int 0])), (b3, .inl (dA 1, 250, .inl (fun _ => 0))), (xl, .inr (2, [.ref bl, .ref no, .ref ro, .int 0]))] sz) := by
  refine vx_ofW (cc := cX11_member) (maxL := 4) (ret := (some .int)) (by decide) rfl ?_
  intro p e s m args below meth c s₁ B hml hno hv
  obtain ⟨rfl, hsz, hP, hK, hD0, hT, hE⟩ := hv
  have hx := B.exec
  have hb := B.bytes
  have hr := B.returns
  have hw := wz_hw (atoms_spec (ws := wz yX11_member cX11_member 4 (some .int)) B.pre)
  have hown : s.vm.findClass "KindredBooks" = some m.cls := findClass_of_methodNamed B.named
  have hlocks := B.notSynchronized
  have hn := hT.1.use (args := ([.ref ax, .int (nI i), .int y0, .int y1] : List Value).toArray)
  subst hsz
  have hD := hD0.self (sz := s.heap.size)
  generalize hAe : va_A [(ax, .inr (0, [.ref xt, .ref xp, .ref xs, .ref xl, .ref xb, .ref xk, .ref xm, .ref xq, .ref xg, .ref xf, .ref xe, .int 49])), (xb, .inl (dA 6, 3, .inr (.inr (.inr (.inr fb))))), (bk, .inr (5, [.int hd, .ref xl, .ref b1, .ref b2, .ref b3, .ref b4, .int 0, .int 0, .int 0])), (b3, .inl (dA 1, 250, .inl (fun _ => 0))), (xl, .inr (2, [.ref bl, .ref no, .ref ro, .int 0]))] s.heap.size = A at hD hE ⊢
  have hA : ∀ q : Nat, s.heap.size ≤ q → A q := fun q h => by rw [← hAe]; exact Or.inr h
  have hS : va_S A s.heap s.heap [] := va_S.rf
  replace hP : va_P D zcl [(ax, .inr (0, [.ref xt, .ref xp, .ref xs, .ref xl, .ref xb, .ref xk, .ref xm, .ref xq, .ref xg, .ref xf, .ref xe, .int 49])), (xb, .inl (dA 6, 3, .inr (.inr (.inr (.inr fb))))), (bk, .inr (5, [.int hd, .ref xl, .ref b1, .ref b2, .ref b3, .ref b4, .int 0, .int 0, .int 0])), (b3, .inl (dA 1, 250, .inl (fun _ => 0))), (xl, .inr (2, [.ref bl, .ref no, .ref ro, .int 0]))] s.heap := hP
  have hl := lv_entry ([.ref ax, .int (nI i), .int y0, .int y1]) (n := 4) (Nat.le_of_ble_eq_true rfl)
  rw [lg_entry_eq]
  generalize (lg_sl ([.ref ax, .int (nI i), .int y0, .int y1]) ++ List.replicate (4 - (lg_sl ([.ref ax, .int (nI i), .int y0, .int y1])).length) Slot.unset).toArray = ls at hl ⊢
  replace hl : lv_has ls 4 [(0, .ref ax), (1, .int (nI i)), (2, .int y0), (3, .int y1)] := hl
  refine lv_aload_n hx hb dX11_member_0 rfl (lv_at hl 0 rfl) ?_
  refine lv_iload_n hx hb dX11_member_1 rfl (lv_at hl 1 rfl) ?_
  refine lv_iconst (v := 4) hx hb dX11_member_2 (by decide) ?_
  refine lv_iload_n hx hb dX11_member_3 rfl (lv_at hl 2 rfl) ?_
  refine lv_iload_n hx hb dX11_member_4 rfl (lv_at hl 3 rfl) ?_
  have hPc := hP.sub (ws' := [(ax, .inr (0, [.ref xt, .ref xp, .ref xs, .ref xl, .ref xb, .ref xk, .ref xm, .ref xq, .ref xg, .ref xf, .ref xe, .int 49])), (xb, .inl (dA 6, 3, .inr (.inr (.inr (.inr fb))))), (bk, .inr (5, [.int hd, .ref xl, .ref b1, .ref b2, .ref b3, .ref b4, .int 0, .int 0, .int 0])), (b3, .inl (dA 1, 250, .inl (fun _ => 0))), (xl, .inr (2, [.ref bl, .ref no, .ref ro, .int 0]))]) [0, 1, 2, 3, 4] rfl
  have hDc := hD.sub (ws' := [(ax, .inr (0, [.ref xt, .ref xp, .ref xs, .ref xl, .ref xb, .ref xk, .ref xm, .ref xq, .ref xg, .ref xf, .ref xe, .int 49])), (xb, .inl (dA 6, 3, .inr (.inr (.inr (.inr fb))))), (bk, .inr (5, [.int hd, .ref xl, .ref b1, .ref b2, .ref b3, .ref b4, .int 0, .int 0, .int 0])), (b3, .inl (dA 1, 250, .inl (fun _ => 0))), (xl, .inr (2, [.ref bl, .ref no, .ref ro, .int 0]))]) [0, 1, 2, 3, 4] (by decide) rfl
  have hFc := va_free (wc := [(ax, .inr (0, [.ref xt, .ref xp, .ref xs, .ref xl, .ref xb, .ref xk, .ref xm, .ref xq, .ref xg, .ref xf, .ref xe, .int 49])), (xb, .inl (dA 6, 3, .inr (.inr (.inr (.inr fb))))), (bk, .inr (5, [.int hd, .ref xl, .ref b1, .ref b2, .ref b3, .ref b4, .int 0, .int 0, .int 0])), (b3, .inl (dA 1, 250, .inl (fun _ => 0))), (xl, .inr (2, [.ref bl, .ref no, .ref ro, .int 0]))]) hD hS hA [0, 1, 2, 3, 4] rfl
  refine zx_call (E0 := "java/util/NoSuchElementException") (vx_runV (As := [.int (nI i), .int 4, .int y0, .int y1]) (rest := []) ⟨hx, hb, hml, hown, hw⟩ (c_makeOfTwo_dead l D dA dZ _ hfl ax xt xp xs xl xb xk xm xq xg xf xe i fb bk b1 b2 b3 b4 hd bl no ro 4 y0 y1 hi hf hne) (z_cwV 4 hw mw_756 mw_758 ms_15 mw_1 mw_759 rfl rfl (by decide +kernel) ⟨Nat.le_of_ble_eq_true rfl, Nat.le_of_ble_eq_true rfl⟩) (zPreV hPc hK hDc hT hE hS hFc (va_recv hK hP (ci := 0) (q0 := 0) rfl rfl)) rfl rfl hl.1 rfl (lv_room (Nat.le_of_ble_eq_true rfl)) dX11_member_5 ⟨Nat.le_of_ble_eq_true rfl, Nat.le_of_ble_eq_true rfl⟩) hS (fun q _ h => hFc q h) hFc (fun ce q9 H1 locs hz1 hk1 hS hce hcv hcl => ?_)
  exact vx_out (fun x hx => (hno x hx).elim) hlocks hce hcv hcl (fun t ht ha => zX_at hS ht) hS.2.2 (Nat.le_of_ble_eq_true rfl) (Nat.le_of_ble_eq_true rfl)
set_option maxHeartbeats 4000000 in
set_option maxRecDepth 100000 in
/-- line on a fresh object: kind -/
theorem c_line_kind (l : Launch) (D : va_G) (dA : Nat → ClassId) (dZ : Nat → Nat) (sz : Nat) (hfl : l.stackTraces = false) (ax : Nat) (xt : Nat) (xp : Nat) (xs : Nat) (xl : Nat) (xb : Nat) (xk : Nat) (xm : Nat) (xq : Nat) (xg : Nat) (xf : Nat) (xe : Nat) (i : Nat) (fb : Nat → Option Nat) (bk : Nat) (b1 : Nat) (b2 : Nat) (b3 : Nat) (b4 : Nat) (hd : Int32) (y0 : Int32) (y1 : Int32) (hi : i < 3) (hf : fb i = some bk) (hz : zbadk y1) : vx_Met l yX11_line (wz yX11_line cX11_line 6 (some .int)) ({ frames := 14, cells := 1, slots := 6, locals := 400 } : Room) (va_Pc [.ref ax, .int (nI i), .int y0, .int y1] (zP D dA dZ [(ax, .inr (0, [.ref xt, .ref xp, .ref xs, .ref xl, .ref xb, .ref xk, .ref xm, .ref xq, .ref xg, .ref xf, .ref xe, .int 49])), (xb, .inl (dA 6, 3, .inr (.inr (.inr (.inr fb)))))] sz)) zNo (zX "java/lang/IllegalArgumentException" (va_A [(ax, .inr (0, [.ref xt, .ref xp, .ref xs, .ref xl, .ref xb, .ref xk, .ref xm, .ref xq, .ref xg, .ref xf, .ref xe, .int 49])), (xb, .inl (dA 6, 3, .inr (.inr (.inr (.inr fb)))))] sz)) 1 6 (va_A [(ax, .inr (0, [.ref xt, .ref xp, .ref xs, .ref xl, .ref xb, .ref xk, .ref xm, .ref xq, .ref xg, .ref xf, .ref xe, .int 49])), (xb, .inl (dA 6, 3, .inr (.inr (.inr (.inr fb)))))] sz) := by
  refine vx_ofW (cc := cX11_line) (maxL := 6) (ret := (some .int)) (by decide) rfl ?_
  intro p e s m args below meth c s₁ B hml hno hv
  obtain ⟨rfl, hsz, hP, hK, hD0, hT, hE⟩ := hv
  have hx := B.exec
  have hb := B.bytes
  have hr := B.returns
  have hw := wz_hw (atoms_spec (ws := wz yX11_line cX11_line 6 (some .int)) B.pre)
  have hown : s.vm.findClass "KindredBooks" = some m.cls := findClass_of_methodNamed B.named
  have hlocks := B.notSynchronized
  have hn := hT.1.use (args := ([.ref ax, .int (nI i), .int y0, .int y1] : List Value).toArray)
  subst hsz
  have hD := hD0.self (sz := s.heap.size)
  generalize hAe : va_A [(ax, .inr (0, [.ref xt, .ref xp, .ref xs, .ref xl, .ref xb, .ref xk, .ref xm, .ref xq, .ref xg, .ref xf, .ref xe, .int 49])), (xb, .inl (dA 6, 3, .inr (.inr (.inr (.inr fb)))))] s.heap.size = A at hD hE ⊢
  have hA : ∀ q : Nat, s.heap.size ≤ q → A q := fun q h => by rw [← hAe]; exact Or.inr h
  have hS : va_S A s.heap s.heap [] := va_S.rf
  replace hP : va_P D zcl [(ax, .inr (0, [.ref xt, .ref xp, .ref xs, .ref xl, .ref xb, .ref xk, .ref xm, .ref xq, .ref xg, .ref xf, .ref xe, .int 49])), (xb, .inl (dA 6, 3, .inr (.inr (.inr (.inr fb)))))] s.heap := hP
  have hl := lv_entry ([.ref ax, .int (nI i), .int y0, .int y1]) (n := 6) (Nat.le_of_ble_eq_true rfl)
  rw [lg_entry_eq]
  generalize (lg_sl ([.ref ax, .int (nI i), .int y0, .int y1]) ++ List.replicate (6 - (lg_sl ([.ref ax, .int (nI i), .int y0, .int y1])).length) Slot.unset).toArray = ls at hl ⊢
  replace hl : lv_has ls 6 [(0, .ref ax), (1, .int (nI i)), (2, .int y0), (3, .int y1)] := hl
  refine lv_aload_n hx hb dX11_line_0 rfl (lv_at hl 0 rfl) ?_
  refine lv_iload_n hx hb dX11_line_1 rfl (lv_at hl 1 rfl) ?_
  have hPc := hP.sub (ws' := [(ax, .inr (0, [.ref xt, .ref xp, .ref xs, .ref xl, .ref xb, .ref xk, .ref xm, .ref xq, .ref xg, .ref xf, .ref xe, .int 49])), (xb, .inl (dA 6, 3, .inr (.inr (.inr (.inr fb)))))]) [0, 1] rfl
  have hDc := hD.sub (ws' := [(ax, .inr (0, [.ref xt, .ref xp, .ref xs, .ref xl, .ref xb, .ref xk, .ref xm, .ref xq, .ref xg, .ref xf, .ref xe, .int 49])), (xb, .inl (dA 6, 3, .inr (.inr (.inr (.inr fb)))))]) [0, 1] (by decide) rfl
  have hFc := va_free (wc := [(ax, .inr (0, [.ref xt, .ref xp, .ref xs, .ref xl, .ref xb, .ref xk, .ref xm, .ref xq, .ref xg, .ref xf, .ref xe, .int 49])), (xb, .inl (dA 6, 3, .inr (.inr (.inr (.inr fb)))))]) hD hS hA [0, 1] rfl
  refine va_callq (va_runV (As := [.int (nI i)]) (rest := []) ⟨hx, hb, hml, hown, hw⟩ (c_bookOf l D dA dZ _ ax xt xp xs xl xb xk xm xq xg xf xe i fb bk hi hf) (z_cwV 1 hw mw_603 mw_605 ms_3 mw_1 mw_606 rfl rfl (by decide +kernel) ⟨Nat.le_of_ble_eq_true rfl, Nat.le_of_ble_eq_true rfl⟩) (zPreV hPc hK hDc hT hE hS hFc (va_recv hK hP (ci := 0) (q0 := 0) rfl rfl)) rfl rfl hl.1 rfl (lv_room (Nat.le_of_ble_eq_true rfl)) dX11_line_2 ⟨Nat.le_of_ble_eq_true rfl, Nat.le_of_ble_eq_true rfl⟩) hS (fun q _ h => hFc q h) hFc (fun r_1 u t H1 locs ht hvm hpo hB hz1 hk1 hS => ?_)
  obtain ⟨hP1, hD1⟩ := hB
  rw [ht] at hP1
  obtain ⟨hP, hD⟩ := va_join (wr := []) (w1 := [(ax, .inr (0, [.ref xt, .ref xp, .ref xs, .ref xl, .ref xb, .ref xk, .ref xm, .ref xq, .ref xg, .ref xf, .ref xe, .int 49])), (xb, .inl (dA 6, 3, .inr (.inr (.inr (.inr fb)))))]) hP hD [0, 1] [] rfl rfl (by decide) (by decide) hk1 hFc hP1 hD1
  generalize H1 = H at hP hS ⊢
  have hP : va_P D zcl [(ax, .inr (0, [.ref xt, .ref xp, .ref xs, .ref xl, .ref xb, .ref xk, .ref xm, .ref xq, .ref xg, .ref xf, .ref xe, .int 49])), (xb, .inl (dA 6, 3, .inr (.inr (.inr (.inr fb)))))] H := hP
  have hD : va_D A [(ax, .inr (0, [.ref xt, .ref xp, .ref xs, .ref xl, .ref xb, .ref xk, .ref xm, .ref xq, .ref xg, .ref xf, .ref xe, .int 49])), (xb, .inl (dA 6, 3, .inr (.inr (.inr (.inr fb)))))] := hD
  obtain rfl : r_1 = (some bk) := hpo
  refine lv_astore (lv' := [(4, .ref bk), (0, .ref ax), (1, .int (nI i)), (2, .int y0), (3, .int y1)]) hx hb dX11_line_5 hl (by decide) rfl (fun ls hl => ?_)
  refine lv_aload_n hx hb dX11_line_7 rfl (lv_at hl 1 rfl) ?_
  refine lv_iload_n hx hb dX11_line_8 rfl (lv_at hl 4 rfl) ?_
  have hPc := hP.sub (ws' := []) [] rfl
  have hDc := hD.sub (ws' := []) [] (by decide) rfl
  have hFc := va_free (wc := []) hD hS hA [] rfl
  refine zx_call (E0 := "java/lang/IllegalArgumentException") (vx_runV (As := [.int y1]) (rest := []) ⟨hx, hb, hml, hown, hw⟩ (c_checkKind_no l D dA dZ _ hfl ax y1 hz) (z_cwV 1 hw mw_690 mw_692 ms_11 mw_1 mw_693 rfl rfl (by decide +kernel) ⟨Nat.le_of_ble_eq_true rfl, Nat.le_of_ble_eq_true rfl⟩) (zPreV hPc hK hDc hT hE hS hFc (va_recv hK hP (ci := 0) (q0 := 0) rfl rfl)) rfl rfl hl.1 rfl (lv_room (Nat.le_of_ble_eq_true rfl)) dX11_line_9 ⟨Nat.le_of_ble_eq_true rfl, Nat.le_of_ble_eq_true rfl⟩) hS (fun q _ h => hFc q h) hFc (fun ce q9 H1 locs hz1 hk1 hS hce hcv hcl => ?_)
  exact vx_out (fun x hx => (hno x hx).elim) hlocks hce hcv hcl (fun t ht ha => zX_at hS ht) hS.2.2 (Nat.le_of_ble_eq_true rfl) (Nat.le_of_ble_eq_true rfl)
set_option maxHeartbeats 4000000 in
set_option maxRecDepth 100000 in
/-- line on a fresh object: dead -/
theorem c_line_dead (l : Launch) (D : va_G) (dA : Nat → ClassId) (dZ : Nat → Nat) (sz : Nat) (hfl : l.stackTraces = false) (ax : Nat) (xt : Nat) (xp : Nat) (xs : Nat) (xl : Nat) (xb : Nat) (xk : Nat) (xm : Nat) (xq : Nat) (xg : Nat) (xf : Nat) (xe : Nat) (i : Nat) (fb : Nat → Option Nat) (bk : Nat) (b1 : Nat) (b2 : Nat) (b3 : Nat) (b4 : Nat) (hd : Int32) (bl : Nat) (no : Nat) (ro : Nat) (y0 : Int32) (y1 : Int32) (hi : i < 3) (hf : fb i = some bk) (hz : zokk y1) : vx_Met l yX11_line (wz yX11_line cX11_line 6 (some .int)) ({ frames := 14, cells := 1, slots := 6, locals := 400 } : Room) (va_Pc [.ref ax, .int (nI i), .int y0, .int y1] (zP D dA dZ [(ax, .inr (0, [.ref xt, .ref xp, .ref xs, .ref xl, .ref xb, .ref xk, .ref xm, .ref xq, .ref xg, .ref xf, .ref xe, .int 49])), (xb, .inl (dA 6, 3, .inr (.inr (.inr (.inr fb))))), (bk, .inr (5, [.int hd, .ref xl, .ref b1, .ref b2, .ref b3, .ref b4, .int 0, .int 0, .int 0])), (b3, .inl (dA 1, 250, .inl (fun _ => 0))), (xl, .inr (2, [.ref bl, .ref no, .ref ro, .int 0]))] sz)) zNo (zX "java/util/NoSuchElementException" (va_A [(ax, .inr (0, [.ref xt, .ref xp, .ref xs, .ref xl, .ref xb, .ref xk, .ref xm, .ref xq, .ref xg, .ref xf, .ref xe, .int 49])), (xb, .inl (dA 6, 3, .inr (.inr (.inr (.inr fb))))), (bk, .inr (5, [.int hd, .ref xl, .ref b1, .ref b2, .ref b3, .ref b4, .int 0, .int 0, .int 0])), (b3, .inl (dA 1, 250, .inl (fun _ => 0))), (xl, .inr (2, [.ref bl, .ref no, .ref ro, .int 0]))] sz)) 1 6 (va_A [(ax, .inr (0, [.ref xt, .ref xp, .ref xs, .ref xl, .ref xb, .ref xk, .ref xm, .ref xq, .ref xg, .ref xf, .ref xe, .int 49])), (xb, .inl (dA 6, 3, .inr (.inr (.inr (.inr fb))))), (bk, .inr (5, [.int hd, .ref xl, .ref b1, .ref b2, .ref b3, .ref b4, .int 0, .int 0, .int 0])), (b3, .inl (dA 1, 250, .inl (fun _ => 0))), (xl, .inr (2, [.ref bl, .ref no, .ref ro, .int 0]))] sz) := by
  refine vx_ofW (cc := cX11_line) (maxL := 6) (ret := (some .int)) (by decide) rfl ?_
  intro p e s m args below meth c s₁ B hml hno hv
  obtain ⟨rfl, hsz, hP, hK, hD0, hT, hE⟩ := hv
  have hx := B.exec
  have hb := B.bytes
  have hr := B.returns
  have hw := wz_hw (atoms_spec (ws := wz yX11_line cX11_line 6 (some .int)) B.pre)
  have hown : s.vm.findClass "KindredBooks" = some m.cls := findClass_of_methodNamed B.named
  have hlocks := B.notSynchronized
  have hn := hT.1.use (args := ([.ref ax, .int (nI i), .int y0, .int y1] : List Value).toArray)
  subst hsz
  have hD := hD0.self (sz := s.heap.size)
  generalize hAe : va_A [(ax, .inr (0, [.ref xt, .ref xp, .ref xs, .ref xl, .ref xb, .ref xk, .ref xm, .ref xq, .ref xg, .ref xf, .ref xe, .int 49])), (xb, .inl (dA 6, 3, .inr (.inr (.inr (.inr fb))))), (bk, .inr (5, [.int hd, .ref xl, .ref b1, .ref b2, .ref b3, .ref b4, .int 0, .int 0, .int 0])), (b3, .inl (dA 1, 250, .inl (fun _ => 0))), (xl, .inr (2, [.ref bl, .ref no, .ref ro, .int 0]))] s.heap.size = A at hD hE ⊢
  have hA : ∀ q : Nat, s.heap.size ≤ q → A q := fun q h => by rw [← hAe]; exact Or.inr h
  have hS : va_S A s.heap s.heap [] := va_S.rf
  replace hP : va_P D zcl [(ax, .inr (0, [.ref xt, .ref xp, .ref xs, .ref xl, .ref xb, .ref xk, .ref xm, .ref xq, .ref xg, .ref xf, .ref xe, .int 49])), (xb, .inl (dA 6, 3, .inr (.inr (.inr (.inr fb))))), (bk, .inr (5, [.int hd, .ref xl, .ref b1, .ref b2, .ref b3, .ref b4, .int 0, .int 0, .int 0])), (b3, .inl (dA 1, 250, .inl (fun _ => 0))), (xl, .inr (2, [.ref bl, .ref no, .ref ro, .int 0]))] s.heap := hP
  have hl := lv_entry ([.ref ax, .int (nI i), .int y0, .int y1]) (n := 6) (Nat.le_of_ble_eq_true rfl)
  rw [lg_entry_eq]
  generalize (lg_sl ([.ref ax, .int (nI i), .int y0, .int y1]) ++ List.replicate (6 - (lg_sl ([.ref ax, .int (nI i), .int y0, .int y1])).length) Slot.unset).toArray = ls at hl ⊢
  replace hl : lv_has ls 6 [(0, .ref ax), (1, .int (nI i)), (2, .int y0), (3, .int y1)] := hl
  refine lv_aload_n hx hb dX11_line_0 rfl (lv_at hl 0 rfl) ?_
  refine lv_iload_n hx hb dX11_line_1 rfl (lv_at hl 1 rfl) ?_
  have hPc := hP.sub (ws' := [(ax, .inr (0, [.ref xt, .ref xp, .ref xs, .ref xl, .ref xb, .ref xk, .ref xm, .ref xq, .ref xg, .ref xf, .ref xe, .int 49])), (xb, .inl (dA 6, 3, .inr (.inr (.inr (.inr fb)))))]) [0, 1] rfl
  have hDc := hD.sub (ws' := [(ax, .inr (0, [.ref xt, .ref xp, .ref xs, .ref xl, .ref xb, .ref xk, .ref xm, .ref xq, .ref xg, .ref xf, .ref xe, .int 49])), (xb, .inl (dA 6, 3, .inr (.inr (.inr (.inr fb)))))]) [0, 1] (by decide) rfl
  have hFc := va_free (wc := [(ax, .inr (0, [.ref xt, .ref xp, .ref xs, .ref xl, .ref xb, .ref xk, .ref xm, .ref xq, .ref xg, .ref xf, .ref xe, .int 49])), (xb, .inl (dA 6, 3, .inr (.inr (.inr (.inr fb)))))]) hD hS hA [0, 1] rfl
  refine va_callq (va_runV (As := [.int (nI i)]) (rest := []) ⟨hx, hb, hml, hown, hw⟩ (c_bookOf l D dA dZ _ ax xt xp xs xl xb xk xm xq xg xf xe i fb bk hi hf) (z_cwV 1 hw mw_603 mw_605 ms_3 mw_1 mw_606 rfl rfl (by decide +kernel) ⟨Nat.le_of_ble_eq_true rfl, Nat.le_of_ble_eq_true rfl⟩) (zPreV hPc hK hDc hT hE hS hFc (va_recv hK hP (ci := 0) (q0 := 0) rfl rfl)) rfl rfl hl.1 rfl (lv_room (Nat.le_of_ble_eq_true rfl)) dX11_line_2 ⟨Nat.le_of_ble_eq_true rfl, Nat.le_of_ble_eq_true rfl⟩) hS (fun q _ h => hFc q h) hFc (fun r_1 u t H1 locs ht hvm hpo hB hz1 hk1 hS => ?_)
  obtain ⟨hP1, hD1⟩ := hB
  rw [ht] at hP1
  obtain ⟨hP, hD⟩ := va_join (wr := [(bk, .inr (5, [.int hd, .ref xl, .ref b1, .ref b2, .ref b3, .ref b4, .int 0, .int 0, .int 0])), (b3, .inl (dA 1, 250, .inl (fun _ => 0))), (xl, .inr (2, [.ref bl, .ref no, .ref ro, .int 0]))]) (w1 := [(ax, .inr (0, [.ref xt, .ref xp, .ref xs, .ref xl, .ref xb, .ref xk, .ref xm, .ref xq, .ref xg, .ref xf, .ref xe, .int 49])), (xb, .inl (dA 6, 3, .inr (.inr (.inr (.inr fb)))))]) hP hD [0, 1] [2, 3, 4] rfl rfl (by decide) (by decide) hk1 hFc hP1 hD1
  generalize H1 = H at hP hS ⊢
  have hP : va_P D zcl [(bk, .inr (5, [.int hd, .ref xl, .ref b1, .ref b2, .ref b3, .ref b4, .int 0, .int 0, .int 0])), (b3, .inl (dA 1, 250, .inl (fun _ => 0))), (xl, .inr (2, [.ref bl, .ref no, .ref ro, .int 0])), (ax, .inr (0, [.ref xt, .ref xp, .ref xs, .ref xl, .ref xb, .ref xk, .ref xm, .ref xq, .ref xg, .ref xf, .ref xe, .int 49])), (xb, .inl (dA 6, 3, .inr (.inr (.inr (.inr fb)))))] H := hP
  have hD : va_D A [(bk, .inr (5, [.int hd, .ref xl, .ref b1, .ref b2, .ref b3, .ref b4, .int 0, .int 0, .int 0])), (b3, .inl (dA 1, 250, .inl (fun _ => 0))), (xl, .inr (2, [.ref bl, .ref no, .ref ro, .int 0])), (ax, .inr (0, [.ref xt, .ref xp, .ref xs, .ref xl, .ref xb, .ref xk, .ref xm, .ref xq, .ref xg, .ref xf, .ref xe, .int 49])), (xb, .inl (dA 6, 3, .inr (.inr (.inr (.inr fb)))))] := hD
  obtain rfl : r_1 = (some bk) := hpo
  refine lv_astore (lv' := [(4, .ref bk), (0, .ref ax), (1, .int (nI i)), (2, .int y0), (3, .int y1)]) hx hb dX11_line_5 hl (by decide) rfl (fun ls hl => ?_)
  refine lv_aload_n hx hb dX11_line_7 rfl (lv_at hl 1 rfl) ?_
  refine lv_iload_n hx hb dX11_line_8 rfl (lv_at hl 4 rfl) ?_
  have hPc := hP.sub (ws' := []) [] rfl
  have hDc := hD.sub (ws' := []) [] (by decide) rfl
  have hFc := va_free (wc := []) hD hS hA [] rfl
  refine va_callv (va_runV (As := [.int y1]) (rest := []) ⟨hx, hb, hml, hown, hw⟩ (c_checkKind_ok l D dA dZ _ ax y1 hz) (z_cwV 1 hw mw_690 mw_692 ms_11 mw_1 mw_693 rfl rfl (by decide +kernel) ⟨Nat.le_of_ble_eq_true rfl, Nat.le_of_ble_eq_true rfl⟩) (zPreV hPc hK hDc hT hE hS hFc (va_recv hK hP (ci := 0) (q0 := 3) rfl rfl)) rfl rfl hl.1 rfl (lv_room (Nat.le_of_ble_eq_true rfl)) dX11_line_9 ⟨Nat.le_of_ble_eq_true rfl, Nat.le_of_ble_eq_true rfl⟩) hS (fun q _ h => hFc q h) hFc (fun u t H1 locs ht hvm hpo hB hz1 hk1 hS => ?_)
  obtain ⟨hP1, hD1⟩ := hB
  rw [ht] at hP1
  obtain ⟨hP, hD⟩ := va_join (wr := [(bk, .inr (5, [.int hd, .ref xl, .ref b1, .ref b2, .ref b3, .ref b4, .int 0, .int 0, .int 0])), (b3, .inl (dA 1, 250, .inl (fun _ => 0))), (xl, .inr (2, [.ref bl, .ref no, .ref ro, .int 0])), (ax, .inr (0, [.ref xt, .ref xp, .ref xs, .ref xl, .ref xb, .ref xk, .ref xm, .ref xq, .ref xg, .ref xf, .ref xe, .int 49])), (xb, .inl (dA 6, 3, .inr (.inr (.inr (.inr fb)))))]) (w1 := []) hP hD [] [0, 1, 2, 3, 4] rfl rfl (by decide) (by decide) hk1 hFc hP1 hD1
  generalize H1 = H at hP hS ⊢
  have hP : va_P D zcl [(bk, .inr (5, [.int hd, .ref xl, .ref b1, .ref b2, .ref b3, .ref b4, .int 0, .int 0, .int 0])), (b3, .inl (dA 1, 250, .inl (fun _ => 0))), (xl, .inr (2, [.ref bl, .ref no, .ref ro, .int 0])), (ax, .inr (0, [.ref xt, .ref xp, .ref xs, .ref xl, .ref xb, .ref xk, .ref xm, .ref xq, .ref xg, .ref xf, .ref xe, .int 49])), (xb, .inl (dA 6, 3, .inr (.inr (.inr (.inr fb)))))] H := hP
  have hD : va_D A [(bk, .inr (5, [.int hd, .ref xl, .ref b1, .ref b2, .ref b3, .ref b4, .int 0, .int 0, .int 0])), (b3, .inl (dA 1, 250, .inl (fun _ => 0))), (xl, .inr (2, [.ref bl, .ref no, .ref ro, .int 0])), (ax, .inr (0, [.ref xt, .ref xp, .ref xs, .ref xl, .ref xb, .ref xk, .ref xm, .ref xq, .ref xg, .ref xf, .ref xe, .int 49])), (xb, .inl (dA 6, 3, .inr (.inr (.inr (.inr fb)))))] := hD
  refine lv_aload_n hx hb dX11_line_12 rfl (lv_at hl 1 rfl) ?_
  refine lv_aload hx hb dX11_line_13 (lv_at hl 0 rfl) ?_
  refine lv_iload_n hx hb dX11_line_15 rfl (lv_at hl 3 rfl) ?_
  have hPc := hP.sub (ws' := [(bk, .inr (5, [.int hd, .ref xl, .ref b1, .ref b2, .ref b3, .ref b4, .int 0, .int 0, .int 0])), (b3, .inl (dA 1, 250, .inl (fun _ => 0)))]) [0, 1] rfl
  have hDc := hD.sub (ws' := [(bk, .inr (5, [.int hd, .ref xl, .ref b1, .ref b2, .ref b3, .ref b4, .int 0, .int 0, .int 0])), (b3, .inl (dA 1, 250, .inl (fun _ => 0)))]) [0, 1] (by decide) rfl
  have hFc := va_free (wc := [(bk, .inr (5, [.int hd, .ref xl, .ref b1, .ref b2, .ref b3, .ref b4, .int 0, .int 0, .int 0])), (b3, .inl (dA 1, 250, .inl (fun _ => 0)))]) hD hS hA [0, 1] rfl
  refine zx_call (E0 := "java/util/NoSuchElementException") (vx_runV (As := [.ref bk, .int y0]) (rest := []) ⟨hx, hb, hml, hown, hw⟩ (c_checkLive_no l D dA dZ _ hfl ax bk xl b1 b2 b3 b4 hd 0 y0) (z_cwV 2 hw mw_695 mw_697 ms_12 mw_1 mw_698 rfl rfl (by decide +kernel) ⟨Nat.le_of_ble_eq_true rfl, Nat.le_of_ble_eq_true rfl⟩) (zPreV hPc hK hDc hT hE hS hFc (va_recv hK hP (ci := 0) (q0 := 3) rfl rfl)) rfl rfl hl.1 rfl (lv_room (Nat.le_of_ble_eq_true rfl)) dX11_line_16 ⟨Nat.le_of_ble_eq_true rfl, Nat.le_of_ble_eq_true rfl⟩) hS (fun q _ h => hFc q h) hFc (fun ce q9 H1 locs hz1 hk1 hS hce hcv hcl => ?_)
  exact vx_out (fun x hx => (hno x hx).elim) hlocks hce hcv hcl (fun t ht ha => zX_at hS ht) hS.2.2 (Nat.le_of_ble_eq_true rfl) (Nat.le_of_ble_eq_true rfl)
set_option maxHeartbeats 4000000 in
set_option maxRecDepth 100000 in
/-- gone on a fresh object: dead -/
theorem c_gone_dead (l : Launch) (D : va_G) (dA : Nat → ClassId) (dZ : Nat → Nat) (sz : Nat) (hfl : l.stackTraces = false) (ax : Nat) (xt : Nat) (xp : Nat) (xs : Nat) (xl : Nat) (xb : Nat) (xk : Nat) (xm : Nat) (xq : Nat) (xg : Nat) (xf : Nat) (xe : Nat) (i : Nat) (fb : Nat → Option Nat) (bk : Nat) (b1 : Nat) (b2 : Nat) (b3 : Nat) (b4 : Nat) (hd : Int32) (bl : Nat) (no : Nat) (ro : Nat) (y0 : Int32) (hi : i < 3) (hf : fb i = some bk) : vx_Met l yX11_gone (wz yX11_gone cX11_gone 4 (some .int)) ({ frames := 14, cells := 1, slots := 6, locals := 400 } : Room) (va_Pc [.ref ax, .int (nI i), .int y0] (zP D dA dZ [(ax, .inr (0, [.ref xt, .ref xp, .ref xs, .ref xl, .ref xb, .ref xk, .ref xm, .ref xq, .ref xg, .ref xf, .ref xe, .int 49])), (xb, .inl (dA 6, 3, .inr (.inr (.inr (.inr fb))))), (bk, .inr (5, [.int hd, .ref xl, .ref b1, .ref b2, .ref b3, .ref b4, .int 0, .int 0, .int 0])), (b3, .inl (dA 1, 250, .inl (fun _ => 0))), (xl, .inr (2, [.ref bl, .ref no, .ref ro, .int 0]))] sz)) zNo (zX "java/util/NoSuchElementException" (va_A [(ax, .inr (0, [.ref xt, .ref xp, .ref xs, .ref xl, .ref xb, .ref xk, .ref xm, .ref xq, .ref xg, .ref xf, .ref xe, .int 49])), (xb, .inl (dA 6, 3, .inr (.inr (.inr (.inr fb))))), (bk, .inr (5, [.int hd, .ref xl, .ref b1, .ref b2, .ref b3, .ref b4, .int 0, .int 0, .int 0])), (b3, .inl (dA 1, 250, .inl (fun _ => 0))), (xl, .inr (2, [.ref bl, .ref no, .ref ro, .int 0]))] sz)) 1 6 (va_A [(ax, .inr (0, [.ref xt, .ref xp, .ref xs, .ref xl, .ref xb, .ref xk, .ref xm, .ref xq, .ref xg, .ref xf, .ref xe, .int 49])), (xb, .inl (dA 6, 3, .inr (.inr (.inr (.inr fb))))), (bk, .inr (5, [.int hd, .ref xl, .ref b1, .ref b2, .ref b3, .ref b4, .int 0, .int 0, .int 0])), (b3, .inl (dA 1, 250, .inl (fun _ => 0))), (xl, .inr (2, [.ref bl, .ref no, .ref ro, .int 0]))] sz) := by
  refine vx_ofW (cc := cX11_gone) (maxL := 4) (ret := (some .int)) (by decide) rfl ?_
  intro p e s m args below meth c s₁ B hml hno hv
  obtain ⟨rfl, hsz, hP, hK, hD0, hT, hE⟩ := hv
  have hx := B.exec
  have hb := B.bytes
  have hr := B.returns
  have hw := wz_hw (atoms_spec (ws := wz yX11_gone cX11_gone 4 (some .int)) B.pre)
  have hown : s.vm.findClass "KindredBooks" = some m.cls := findClass_of_methodNamed B.named
  have hlocks := B.notSynchronized
  have hn := hT.1.use (args := ([.ref ax, .int (nI i), .int y0] : List Value).toArray)
  subst hsz
  have hD := hD0.self (sz := s.heap.size)
  generalize hAe : va_A [(ax, .inr (0, [.ref xt, .ref xp, .ref xs, .ref xl, .ref xb, .ref xk, .ref xm, .ref xq, .ref xg, .ref xf, .ref xe, .int 49])), (xb, .inl (dA 6, 3, .inr (.inr (.inr (.inr fb))))), (bk, .inr (5, [.int hd, .ref xl, .ref b1, .ref b2, .ref b3, .ref b4, .int 0, .int 0, .int 0])), (b3, .inl (dA 1, 250, .inl (fun _ => 0))), (xl, .inr (2, [.ref bl, .ref no, .ref ro, .int 0]))] s.heap.size = A at hD hE ⊢
  have hA : ∀ q : Nat, s.heap.size ≤ q → A q := fun q h => by rw [← hAe]; exact Or.inr h
  have hS : va_S A s.heap s.heap [] := va_S.rf
  replace hP : va_P D zcl [(ax, .inr (0, [.ref xt, .ref xp, .ref xs, .ref xl, .ref xb, .ref xk, .ref xm, .ref xq, .ref xg, .ref xf, .ref xe, .int 49])), (xb, .inl (dA 6, 3, .inr (.inr (.inr (.inr fb))))), (bk, .inr (5, [.int hd, .ref xl, .ref b1, .ref b2, .ref b3, .ref b4, .int 0, .int 0, .int 0])), (b3, .inl (dA 1, 250, .inl (fun _ => 0))), (xl, .inr (2, [.ref bl, .ref no, .ref ro, .int 0]))] s.heap := hP
  have hl := lv_entry ([.ref ax, .int (nI i), .int y0]) (n := 4) (Nat.le_of_ble_eq_true rfl)
  rw [lg_entry_eq]
  generalize (lg_sl ([.ref ax, .int (nI i), .int y0]) ++ List.replicate (4 - (lg_sl ([.ref ax, .int (nI i), .int y0])).length) Slot.unset).toArray = ls at hl ⊢
  replace hl : lv_has ls 4 [(0, .ref ax), (1, .int (nI i)), (2, .int y0)] := hl
  refine lv_aload_n hx hb dX11_gone_0 rfl (lv_at hl 0 rfl) ?_
  refine lv_iload_n hx hb dX11_gone_1 rfl (lv_at hl 1 rfl) ?_
  have hPc := hP.sub (ws' := [(ax, .inr (0, [.ref xt, .ref xp, .ref xs, .ref xl, .ref xb, .ref xk, .ref xm, .ref xq, .ref xg, .ref xf, .ref xe, .int 49])), (xb, .inl (dA 6, 3, .inr (.inr (.inr (.inr fb)))))]) [0, 1] rfl
  have hDc := hD.sub (ws' := [(ax, .inr (0, [.ref xt, .ref xp, .ref xs, .ref xl, .ref xb, .ref xk, .ref xm, .ref xq, .ref xg, .ref xf, .ref xe, .int 49])), (xb, .inl (dA 6, 3, .inr (.inr (.inr (.inr fb)))))]) [0, 1] (by decide) rfl
  have hFc := va_free (wc := [(ax, .inr (0, [.ref xt, .ref xp, .ref xs, .ref xl, .ref xb, .ref xk, .ref xm, .ref xq, .ref xg, .ref xf, .ref xe, .int 49])), (xb, .inl (dA 6, 3, .inr (.inr (.inr (.inr fb)))))]) hD hS hA [0, 1] rfl
  refine va_callq (va_runV (As := [.int (nI i)]) (rest := []) ⟨hx, hb, hml, hown, hw⟩ (c_bookOf l D dA dZ _ ax xt xp xs xl xb xk xm xq xg xf xe i fb bk hi hf) (z_cwV 1 hw mw_603 mw_605 ms_3 mw_1 mw_606 rfl rfl (by decide +kernel) ⟨Nat.le_of_ble_eq_true rfl, Nat.le_of_ble_eq_true rfl⟩) (zPreV hPc hK hDc hT hE hS hFc (va_recv hK hP (ci := 0) (q0 := 0) rfl rfl)) rfl rfl hl.1 rfl (lv_room (Nat.le_of_ble_eq_true rfl)) dX11_gone_2 ⟨Nat.le_of_ble_eq_true rfl, Nat.le_of_ble_eq_true rfl⟩) hS (fun q _ h => hFc q h) hFc (fun r_1 u t H1 locs ht hvm hpo hB hz1 hk1 hS => ?_)
  obtain ⟨hP1, hD1⟩ := hB
  rw [ht] at hP1
  obtain ⟨hP, hD⟩ := va_join (wr := [(bk, .inr (5, [.int hd, .ref xl, .ref b1, .ref b2, .ref b3, .ref b4, .int 0, .int 0, .int 0])), (b3, .inl (dA 1, 250, .inl (fun _ => 0))), (xl, .inr (2, [.ref bl, .ref no, .ref ro, .int 0]))]) (w1 := [(ax, .inr (0, [.ref xt, .ref xp, .ref xs, .ref xl, .ref xb, .ref xk, .ref xm, .ref xq, .ref xg, .ref xf, .ref xe, .int 49])), (xb, .inl (dA 6, 3, .inr (.inr (.inr (.inr fb)))))]) hP hD [0, 1] [2, 3, 4] rfl rfl (by decide) (by decide) hk1 hFc hP1 hD1
  generalize H1 = H at hP hS ⊢
  have hP : va_P D zcl [(bk, .inr (5, [.int hd, .ref xl, .ref b1, .ref b2, .ref b3, .ref b4, .int 0, .int 0, .int 0])), (b3, .inl (dA 1, 250, .inl (fun _ => 0))), (xl, .inr (2, [.ref bl, .ref no, .ref ro, .int 0])), (ax, .inr (0, [.ref xt, .ref xp, .ref xs, .ref xl, .ref xb, .ref xk, .ref xm, .ref xq, .ref xg, .ref xf, .ref xe, .int 49])), (xb, .inl (dA 6, 3, .inr (.inr (.inr (.inr fb)))))] H := hP
  have hD : va_D A [(bk, .inr (5, [.int hd, .ref xl, .ref b1, .ref b2, .ref b3, .ref b4, .int 0, .int 0, .int 0])), (b3, .inl (dA 1, 250, .inl (fun _ => 0))), (xl, .inr (2, [.ref bl, .ref no, .ref ro, .int 0])), (ax, .inr (0, [.ref xt, .ref xp, .ref xs, .ref xl, .ref xb, .ref xk, .ref xm, .ref xq, .ref xg, .ref xf, .ref xe, .int 49])), (xb, .inl (dA 6, 3, .inr (.inr (.inr (.inr fb)))))] := hD
  obtain rfl : r_1 = (some bk) := hpo
  refine lv_astore_n (lv' := [(3, .ref bk), (0, .ref ax), (1, .int (nI i)), (2, .int y0)]) hx hb dX11_gone_5 rfl hl (by decide) rfl (fun ls hl => ?_)
  refine lv_aload_n hx hb dX11_gone_6 rfl (lv_at hl 1 rfl) ?_
  refine lv_aload_n hx hb dX11_gone_7 rfl (lv_at hl 0 rfl) ?_
  refine lv_iload_n hx hb dX11_gone_8 rfl (lv_at hl 3 rfl) ?_
  have hPc := hP.sub (ws' := [(bk, .inr (5, [.int hd, .ref xl, .ref b1, .ref b2, .ref b3, .ref b4, .int 0, .int 0, .int 0])), (b3, .inl (dA 1, 250, .inl (fun _ => 0)))]) [0, 1] rfl
  have hDc := hD.sub (ws' := [(bk, .inr (5, [.int hd, .ref xl, .ref b1, .ref b2, .ref b3, .ref b4, .int 0, .int 0, .int 0])), (b3, .inl (dA 1, 250, .inl (fun _ => 0)))]) [0, 1] (by decide) rfl
  have hFc := va_free (wc := [(bk, .inr (5, [.int hd, .ref xl, .ref b1, .ref b2, .ref b3, .ref b4, .int 0, .int 0, .int 0])), (b3, .inl (dA 1, 250, .inl (fun _ => 0)))]) hD hS hA [0, 1] rfl
  refine zx_call (E0 := "java/util/NoSuchElementException") (vx_runV (As := [.ref bk, .int y0]) (rest := []) ⟨hx, hb, hml, hown, hw⟩ (c_checkLive_no l D dA dZ _ hfl ax bk xl b1 b2 b3 b4 hd 0 y0) (z_cwV 2 hw mw_695 mw_697 ms_12 mw_1 mw_698 rfl rfl (by decide +kernel) ⟨Nat.le_of_ble_eq_true rfl, Nat.le_of_ble_eq_true rfl⟩) (zPreV hPc hK hDc hT hE hS hFc (va_recv hK hP (ci := 0) (q0 := 3) rfl rfl)) rfl rfl hl.1 rfl (lv_room (Nat.le_of_ble_eq_true rfl)) dX11_gone_9 ⟨Nat.le_of_ble_eq_true rfl, Nat.le_of_ble_eq_true rfl⟩) hS (fun q _ h => hFc q h) hFc (fun ce q9 H1 locs hz1 hk1 hS hce hcv hcl => ?_)
  exact vx_out (fun x hx => (hno x hx).elim) hlocks hce hcv hcl (fun t ht ha => zX_at hS ht) hS.2.2 (Nat.le_of_ble_eq_true rfl) (Nat.le_of_ble_eq_true rfl)
set_option maxHeartbeats 4000000 in
set_option maxRecDepth 100000 in
/-- back on a fresh object: none -/
theorem c_back_none (l : Launch) (D : va_G) (dA : Nat → ClassId) (dZ : Nat → Nat) (sz : Nat) (hfl : l.stackTraces = false) (ax : Nat) (xt : Nat) (xp : Nat) (xs : Nat) (xl : Nat) (xb : Nat) (xk : Nat) (xm : Nat) (xq : Nat) (xg : Nat) (xf : Nat) (xe : Nat) (i : Nat) (fb : Nat → Option Nat) (bk : Nat) (b1 : Nat) (b2 : Nat) (b3 : Nat) (b4 : Nat) (hd : Int32) (bl : Nat) (no : Nat) (ro : Nat) (y0 : Int32) (hi : i < 3) (hf : fb i = some bk) : vx_Met l yX11_back (wz yX11_back cX11_back 4 (some .int)) ({ frames := 14, cells := 1, slots := 6, locals := 400 } : Room) (va_Pc [.ref ax, .int (nI i), .int y0] (zP D dA dZ [(ax, .inr (0, [.ref xt, .ref xp, .ref xs, .ref xl, .ref xb, .ref xk, .ref xm, .ref xq, .ref xg, .ref xf, .ref xe, .int 49])), (xb, .inl (dA 6, 3, .inr (.inr (.inr (.inr fb))))), (bk, .inr (5, [.int hd, .ref xl, .ref b1, .ref b2, .ref b3, .ref b4, .int 0, .int 0, .int 0])), (b3, .inl (dA 1, 250, .inl (fun _ => 0))), (xl, .inr (2, [.ref bl, .ref no, .ref ro, .int 0]))] sz)) zNo (zX "java/lang/IndexOutOfBoundsException" (va_A [(ax, .inr (0, [.ref xt, .ref xp, .ref xs, .ref xl, .ref xb, .ref xk, .ref xm, .ref xq, .ref xg, .ref xf, .ref xe, .int 49])), (xb, .inl (dA 6, 3, .inr (.inr (.inr (.inr fb))))), (bk, .inr (5, [.int hd, .ref xl, .ref b1, .ref b2, .ref b3, .ref b4, .int 0, .int 0, .int 0])), (b3, .inl (dA 1, 250, .inl (fun _ => 0))), (xl, .inr (2, [.ref bl, .ref no, .ref ro, .int 0]))] sz)) 1 6 (va_A [(ax, .inr (0, [.ref xt, .ref xp, .ref xs, .ref xl, .ref xb, .ref xk, .ref xm, .ref xq, .ref xg, .ref xf, .ref xe, .int 49])), (xb, .inl (dA 6, 3, .inr (.inr (.inr (.inr fb))))), (bk, .inr (5, [.int hd, .ref xl, .ref b1, .ref b2, .ref b3, .ref b4, .int 0, .int 0, .int 0])), (b3, .inl (dA 1, 250, .inl (fun _ => 0))), (xl, .inr (2, [.ref bl, .ref no, .ref ro, .int 0]))] sz) := by
  refine vx_ofW (cc := cX11_back) (maxL := 4) (ret := (some .int)) (by decide) rfl ?_
  intro p e s m args below meth c s₁ B hml hno hv
  obtain ⟨rfl, hsz, hP, hK, hD0, hT, hE⟩ := hv
  have hx := B.exec
  have hb := B.bytes
  have hr := B.returns
  have hw := wz_hw (atoms_spec (ws := wz yX11_back cX11_back 4 (some .int)) B.pre)
  have hown : s.vm.findClass "KindredBooks" = some m.cls := findClass_of_methodNamed B.named
  have hlocks := B.notSynchronized
  have hn := hT.1.use (args := ([.ref ax, .int (nI i), .int y0] : List Value).toArray)
  subst hsz
  have hD := hD0.self (sz := s.heap.size)
  generalize hAe : va_A [(ax, .inr (0, [.ref xt, .ref xp, .ref xs, .ref xl, .ref xb, .ref xk, .ref xm, .ref xq, .ref xg, .ref xf, .ref xe, .int 49])), (xb, .inl (dA 6, 3, .inr (.inr (.inr (.inr fb))))), (bk, .inr (5, [.int hd, .ref xl, .ref b1, .ref b2, .ref b3, .ref b4, .int 0, .int 0, .int 0])), (b3, .inl (dA 1, 250, .inl (fun _ => 0))), (xl, .inr (2, [.ref bl, .ref no, .ref ro, .int 0]))] s.heap.size = A at hD hE ⊢
  have hA : ∀ q : Nat, s.heap.size ≤ q → A q := fun q h => by rw [← hAe]; exact Or.inr h
  have hS : va_S A s.heap s.heap [] := va_S.rf
  replace hP : va_P D zcl [(ax, .inr (0, [.ref xt, .ref xp, .ref xs, .ref xl, .ref xb, .ref xk, .ref xm, .ref xq, .ref xg, .ref xf, .ref xe, .int 49])), (xb, .inl (dA 6, 3, .inr (.inr (.inr (.inr fb))))), (bk, .inr (5, [.int hd, .ref xl, .ref b1, .ref b2, .ref b3, .ref b4, .int 0, .int 0, .int 0])), (b3, .inl (dA 1, 250, .inl (fun _ => 0))), (xl, .inr (2, [.ref bl, .ref no, .ref ro, .int 0]))] s.heap := hP
  have hl := lv_entry ([.ref ax, .int (nI i), .int y0]) (n := 4) (Nat.le_of_ble_eq_true rfl)
  rw [lg_entry_eq]
  generalize (lg_sl ([.ref ax, .int (nI i), .int y0]) ++ List.replicate (4 - (lg_sl ([.ref ax, .int (nI i), .int y0])).length) Slot.unset).toArray = ls at hl ⊢
  replace hl : lv_has ls 4 [(0, .ref ax), (1, .int (nI i)), (2, .int y0)] := hl
  refine lv_aload_n hx hb dX11_back_0 rfl (lv_at hl 0 rfl) ?_
  refine lv_iload_n hx hb dX11_back_1 rfl (lv_at hl 1 rfl) ?_
  have hPc := hP.sub (ws' := [(ax, .inr (0, [.ref xt, .ref xp, .ref xs, .ref xl, .ref xb, .ref xk, .ref xm, .ref xq, .ref xg, .ref xf, .ref xe, .int 49])), (xb, .inl (dA 6, 3, .inr (.inr (.inr (.inr fb)))))]) [0, 1] rfl
  have hDc := hD.sub (ws' := [(ax, .inr (0, [.ref xt, .ref xp, .ref xs, .ref xl, .ref xb, .ref xk, .ref xm, .ref xq, .ref xg, .ref xf, .ref xe, .int 49])), (xb, .inl (dA 6, 3, .inr (.inr (.inr (.inr fb)))))]) [0, 1] (by decide) rfl
  have hFc := va_free (wc := [(ax, .inr (0, [.ref xt, .ref xp, .ref xs, .ref xl, .ref xb, .ref xk, .ref xm, .ref xq, .ref xg, .ref xf, .ref xe, .int 49])), (xb, .inl (dA 6, 3, .inr (.inr (.inr (.inr fb)))))]) hD hS hA [0, 1] rfl
  refine va_callq (va_runV (As := [.int (nI i)]) (rest := []) ⟨hx, hb, hml, hown, hw⟩ (c_bookOf l D dA dZ _ ax xt xp xs xl xb xk xm xq xg xf xe i fb bk hi hf) (z_cwV 1 hw mw_603 mw_605 ms_3 mw_1 mw_606 rfl rfl (by decide +kernel) ⟨Nat.le_of_ble_eq_true rfl, Nat.le_of_ble_eq_true rfl⟩) (zPreV hPc hK hDc hT hE hS hFc (va_recv hK hP (ci := 0) (q0 := 0) rfl rfl)) rfl rfl hl.1 rfl (lv_room (Nat.le_of_ble_eq_true rfl)) dX11_back_2 ⟨Nat.le_of_ble_eq_true rfl, Nat.le_of_ble_eq_true rfl⟩) hS (fun q _ h => hFc q h) hFc (fun r_1 u t H1 locs ht hvm hpo hB hz1 hk1 hS => ?_)
  obtain ⟨hP1, hD1⟩ := hB
  rw [ht] at hP1
  obtain ⟨hP, hD⟩ := va_join (wr := [(bk, .inr (5, [.int hd, .ref xl, .ref b1, .ref b2, .ref b3, .ref b4, .int 0, .int 0, .int 0])), (b3, .inl (dA 1, 250, .inl (fun _ => 0))), (xl, .inr (2, [.ref bl, .ref no, .ref ro, .int 0]))]) (w1 := [(ax, .inr (0, [.ref xt, .ref xp, .ref xs, .ref xl, .ref xb, .ref xk, .ref xm, .ref xq, .ref xg, .ref xf, .ref xe, .int 49])), (xb, .inl (dA 6, 3, .inr (.inr (.inr (.inr fb)))))]) hP hD [0, 1] [2, 3, 4] rfl rfl (by decide) (by decide) hk1 hFc hP1 hD1
  generalize H1 = H at hP hS ⊢
  have hP : va_P D zcl [(bk, .inr (5, [.int hd, .ref xl, .ref b1, .ref b2, .ref b3, .ref b4, .int 0, .int 0, .int 0])), (b3, .inl (dA 1, 250, .inl (fun _ => 0))), (xl, .inr (2, [.ref bl, .ref no, .ref ro, .int 0])), (ax, .inr (0, [.ref xt, .ref xp, .ref xs, .ref xl, .ref xb, .ref xk, .ref xm, .ref xq, .ref xg, .ref xf, .ref xe, .int 49])), (xb, .inl (dA 6, 3, .inr (.inr (.inr (.inr fb)))))] H := hP
  have hD : va_D A [(bk, .inr (5, [.int hd, .ref xl, .ref b1, .ref b2, .ref b3, .ref b4, .int 0, .int 0, .int 0])), (b3, .inl (dA 1, 250, .inl (fun _ => 0))), (xl, .inr (2, [.ref bl, .ref no, .ref ro, .int 0])), (ax, .inr (0, [.ref xt, .ref xp, .ref xs, .ref xl, .ref xb, .ref xk, .ref xm, .ref xq, .ref xg, .ref xf, .ref xe, .int 49])), (xb, .inl (dA 6, 3, .inr (.inr (.inr (.inr fb)))))] := hD
  obtain rfl : r_1 = (some bk) := hpo
  refine lv_astore_n (lv' := [(3, .ref bk), (0, .ref ax), (1, .int (nI i)), (2, .int y0)]) hx hb dX11_back_5 rfl hl (by decide) rfl (fun ls hl => ?_)
  refine lv_aload_n hx hb dX11_back_6 rfl (lv_at hl 1 rfl) ?_
  refine lv_iload_n hx hb dX11_back_7 rfl (lv_at hl 3 rfl) ?_
  have hPc := hP.sub (ws' := [(ax, .inr (0, [.ref xt, .ref xp, .ref xs, .ref xl, .ref xb, .ref xk, .ref xm, .ref xq, .ref xg, .ref xf, .ref xe, .int 49])), (xl, .inr (2, [.ref bl, .ref no, .ref ro, .int 0]))]) [3, 2] rfl
  have hDc := hD.sub (ws' := [(ax, .inr (0, [.ref xt, .ref xp, .ref xs, .ref xl, .ref xb, .ref xk, .ref xm, .ref xq, .ref xg, .ref xf, .ref xe, .int 49])), (xl, .inr (2, [.ref bl, .ref no, .ref ro, .int 0]))]) [3, 2] (by decide) rfl
  have hFc := va_free (wc := [(ax, .inr (0, [.ref xt, .ref xp, .ref xs, .ref xl, .ref xb, .ref xk, .ref xm, .ref xq, .ref xg, .ref xf, .ref xe, .int 49])), (xl, .inr (2, [.ref bl, .ref no, .ref ro, .int 0]))]) hD hS hA [3, 2] rfl
  refine zx_call (E0 := "java/lang/IndexOutOfBoundsException") (vx_runV (As := [.int y0]) (rest := []) ⟨hx, hb, hml, hown, hw⟩ (c_checkChange_no l D dA dZ _ hfl ax xt xp xs xl xb xk xm xq xg xf xe bl no ro y0) (z_cwV 1 hw mw_789 mw_791 ms_16 mw_1 mw_792 rfl rfl (by decide +kernel) ⟨Nat.le_of_ble_eq_true rfl, Nat.le_of_ble_eq_true rfl⟩) (zPreV hPc hK hDc hT hE hS hFc (va_recv hK hP (ci := 0) (q0 := 3) rfl rfl)) rfl rfl hl.1 rfl (lv_room (Nat.le_of_ble_eq_true rfl)) dX11_back_8 ⟨Nat.le_of_ble_eq_true rfl, Nat.le_of_ble_eq_true rfl⟩) hS (fun q _ h => hFc q h) hFc (fun ce q9 H1 locs hz1 hk1 hS hce hcv hcl => ?_)
  exact vx_out (fun x hx => (hno x hx).elim) hlocks hce hcv hcl (fun t ht ha => zX_at hS ht) hS.2.2 (Nat.le_of_ble_eq_true rfl) (Nat.le_of_ble_eq_true rfl)
set_option maxHeartbeats 4000000 in
set_option maxRecDepth 100000 in
/-- counts on a fresh object: none -/
theorem c_counts_none (l : Launch) (D : va_G) (dA : Nat → ClassId) (dZ : Nat → Nat) (sz : Nat) (hfl : l.stackTraces = false) (ax : Nat) (xt : Nat) (xp : Nat) (xs : Nat) (xl : Nat) (xb : Nat) (xk : Nat) (xm : Nat) (xq : Nat) (xg : Nat) (xf : Nat) (xe : Nat) (i : Nat) (fb : Nat → Option Nat) (bk : Nat) (b1 : Nat) (b2 : Nat) (b3 : Nat) (b4 : Nat) (hd : Int32) (bl : Nat) (no : Nat) (ro : Nat) (y0 : Int32) (hi : i < 3) (hf : fb i = some bk) : vx_Met l yX11_counts (wz yX11_counts cX11_counts 4 (some .boolean)) ({ frames := 14, cells := 1, slots := 6, locals := 400 } : Room) (va_Pc [.ref ax, .int (nI i), .int y0] (zP D dA dZ [(ax, .inr (0, [.ref xt, .ref xp, .ref xs, .ref xl, .ref xb, .ref xk, .ref xm, .ref xq, .ref xg, .ref xf, .ref xe, .int 49])), (xb, .inl (dA 6, 3, .inr (.inr (.inr (.inr fb))))), (bk, .inr (5, [.int hd, .ref xl, .ref b1, .ref b2, .ref b3, .ref b4, .int 0, .int 0, .int 0])), (b3, .inl (dA 1, 250, .inl (fun _ => 0))), (xl, .inr (2, [.ref bl, .ref no, .ref ro, .int 0]))] sz)) zNo (zX "java/lang/IndexOutOfBoundsException" (va_A [(ax, .inr (0, [.ref xt, .ref xp, .ref xs, .ref xl, .ref xb, .ref xk, .ref xm, .ref xq, .ref xg, .ref xf, .ref xe, .int 49])), (xb, .inl (dA 6, 3, .inr (.inr (.inr (.inr fb))))), (bk, .inr (5, [.int hd, .ref xl, .ref b1, .ref b2, .ref b3, .ref b4, .int 0, .int 0, .int 0])), (b3, .inl (dA 1, 250, .inl (fun _ => 0))), (xl, .inr (2, [.ref bl, .ref no, .ref ro, .int 0]))] sz)) 1 6 (va_A [(ax, .inr (0, [.ref xt, .ref xp, .ref xs, .ref xl, .ref xb, .ref xk, .ref xm, .ref xq, .ref xg, .ref xf, .ref xe, .int 49])), (xb, .inl (dA 6, 3, .inr (.inr (.inr (.inr fb))))), (bk, .inr (5, [.int hd, .ref xl, .ref b1, .ref b2, .ref b3, .ref b4, .int 0, .int 0, .int 0])), (b3, .inl (dA 1, 250, .inl (fun _ => 0))), (xl, .inr (2, [.ref bl, .ref no, .ref ro, .int 0]))] sz) := by
  refine vx_ofW (cc := cX11_counts) (maxL := 4) (ret := (some .boolean)) (by decide) rfl ?_
  intro p e s m args below meth c s₁ B hml hno hv
  obtain ⟨rfl, hsz, hP, hK, hD0, hT, hE⟩ := hv
  have hx := B.exec
  have hb := B.bytes
  have hr := B.returns
  have hw := wz_hw (atoms_spec (ws := wz yX11_counts cX11_counts 4 (some .boolean)) B.pre)
  have hown : s.vm.findClass "KindredBooks" = some m.cls := findClass_of_methodNamed B.named
  have hlocks := B.notSynchronized
  have hn := hT.1.use (args := ([.ref ax, .int (nI i), .int y0] : List Value).toArray)
  subst hsz
  have hD := hD0.self (sz := s.heap.size)
  generalize hAe : va_A [(ax, .inr (0, [.ref xt, .ref xp, .ref xs, .ref xl, .ref xb, .ref xk, .ref xm, .ref xq, .ref xg, .ref xf, .ref xe, .int 49])), (xb, .inl (dA 6, 3, .inr (.inr (.inr (.inr fb))))), (bk, .inr (5, [.int hd, .ref xl, .ref b1, .ref b2, .ref b3, .ref b4, .int 0, .int 0, .int 0])), (b3, .inl (dA 1, 250, .inl (fun _ => 0))), (xl, .inr (2, [.ref bl, .ref no, .ref ro, .int 0]))] s.heap.size = A at hD hE ⊢
  have hA : ∀ q : Nat, s.heap.size ≤ q → A q := fun q h => by rw [← hAe]; exact Or.inr h
  have hS : va_S A s.heap s.heap [] := va_S.rf
  replace hP : va_P D zcl [(ax, .inr (0, [.ref xt, .ref xp, .ref xs, .ref xl, .ref xb, .ref xk, .ref xm, .ref xq, .ref xg, .ref xf, .ref xe, .int 49])), (xb, .inl (dA 6, 3, .inr (.inr (.inr (.inr fb))))), (bk, .inr (5, [.int hd, .ref xl, .ref b1, .ref b2, .ref b3, .ref b4, .int 0, .int 0, .int 0])), (b3, .inl (dA 1, 250, .inl (fun _ => 0))), (xl, .inr (2, [.ref bl, .ref no, .ref ro, .int 0]))] s.heap := hP
  have hl := lv_entry ([.ref ax, .int (nI i), .int y0]) (n := 4) (Nat.le_of_ble_eq_true rfl)
  rw [lg_entry_eq]
  generalize (lg_sl ([.ref ax, .int (nI i), .int y0]) ++ List.replicate (4 - (lg_sl ([.ref ax, .int (nI i), .int y0])).length) Slot.unset).toArray = ls at hl ⊢
  replace hl : lv_has ls 4 [(0, .ref ax), (1, .int (nI i)), (2, .int y0)] := hl
  refine lv_aload_n hx hb dX11_counts_0 rfl (lv_at hl 0 rfl) ?_
  refine lv_iload_n hx hb dX11_counts_1 rfl (lv_at hl 1 rfl) ?_
  have hPc := hP.sub (ws' := [(ax, .inr (0, [.ref xt, .ref xp, .ref xs, .ref xl, .ref xb, .ref xk, .ref xm, .ref xq, .ref xg, .ref xf, .ref xe, .int 49])), (xb, .inl (dA 6, 3, .inr (.inr (.inr (.inr fb)))))]) [0, 1] rfl
  have hDc := hD.sub (ws' := [(ax, .inr (0, [.ref xt, .ref xp, .ref xs, .ref xl, .ref xb, .ref xk, .ref xm, .ref xq, .ref xg, .ref xf, .ref xe, .int 49])), (xb, .inl (dA 6, 3, .inr (.inr (.inr (.inr fb)))))]) [0, 1] (by decide) rfl
  have hFc := va_free (wc := [(ax, .inr (0, [.ref xt, .ref xp, .ref xs, .ref xl, .ref xb, .ref xk, .ref xm, .ref xq, .ref xg, .ref xf, .ref xe, .int 49])), (xb, .inl (dA 6, 3, .inr (.inr (.inr (.inr fb)))))]) hD hS hA [0, 1] rfl
  refine va_callq (va_runV (As := [.int (nI i)]) (rest := []) ⟨hx, hb, hml, hown, hw⟩ (c_bookOf l D dA dZ _ ax xt xp xs xl xb xk xm xq xg xf xe i fb bk hi hf) (z_cwV 1 hw mw_603 mw_605 ms_3 mw_1 mw_606 rfl rfl (by decide +kernel) ⟨Nat.le_of_ble_eq_true rfl, Nat.le_of_ble_eq_true rfl⟩) (zPreV hPc hK hDc hT hE hS hFc (va_recv hK hP (ci := 0) (q0 := 0) rfl rfl)) rfl rfl hl.1 rfl (lv_room (Nat.le_of_ble_eq_true rfl)) dX11_counts_2 ⟨Nat.le_of_ble_eq_true rfl, Nat.le_of_ble_eq_true rfl⟩) hS (fun q _ h => hFc q h) hFc (fun r_1 u t H1 locs ht hvm hpo hB hz1 hk1 hS => ?_)
  obtain ⟨hP1, hD1⟩ := hB
  rw [ht] at hP1
  obtain ⟨hP, hD⟩ := va_join (wr := [(bk, .inr (5, [.int hd, .ref xl, .ref b1, .ref b2, .ref b3, .ref b4, .int 0, .int 0, .int 0])), (b3, .inl (dA 1, 250, .inl (fun _ => 0))), (xl, .inr (2, [.ref bl, .ref no, .ref ro, .int 0]))]) (w1 := [(ax, .inr (0, [.ref xt, .ref xp, .ref xs, .ref xl, .ref xb, .ref xk, .ref xm, .ref xq, .ref xg, .ref xf, .ref xe, .int 49])), (xb, .inl (dA 6, 3, .inr (.inr (.inr (.inr fb)))))]) hP hD [0, 1] [2, 3, 4] rfl rfl (by decide) (by decide) hk1 hFc hP1 hD1
  generalize H1 = H at hP hS ⊢
  have hP : va_P D zcl [(bk, .inr (5, [.int hd, .ref xl, .ref b1, .ref b2, .ref b3, .ref b4, .int 0, .int 0, .int 0])), (b3, .inl (dA 1, 250, .inl (fun _ => 0))), (xl, .inr (2, [.ref bl, .ref no, .ref ro, .int 0])), (ax, .inr (0, [.ref xt, .ref xp, .ref xs, .ref xl, .ref xb, .ref xk, .ref xm, .ref xq, .ref xg, .ref xf, .ref xe, .int 49])), (xb, .inl (dA 6, 3, .inr (.inr (.inr (.inr fb)))))] H := hP
  have hD : va_D A [(bk, .inr (5, [.int hd, .ref xl, .ref b1, .ref b2, .ref b3, .ref b4, .int 0, .int 0, .int 0])), (b3, .inl (dA 1, 250, .inl (fun _ => 0))), (xl, .inr (2, [.ref bl, .ref no, .ref ro, .int 0])), (ax, .inr (0, [.ref xt, .ref xp, .ref xs, .ref xl, .ref xb, .ref xk, .ref xm, .ref xq, .ref xg, .ref xf, .ref xe, .int 49])), (xb, .inl (dA 6, 3, .inr (.inr (.inr (.inr fb)))))] := hD
  obtain rfl : r_1 = (some bk) := hpo
  refine lv_astore_n (lv' := [(3, .ref bk), (0, .ref ax), (1, .int (nI i)), (2, .int y0)]) hx hb dX11_counts_5 rfl hl (by decide) rfl (fun ls hl => ?_)
  refine lv_aload_n hx hb dX11_counts_6 rfl (lv_at hl 1 rfl) ?_
  refine lv_iload_n hx hb dX11_counts_7 rfl (lv_at hl 3 rfl) ?_
  have hPc := hP.sub (ws' := [(ax, .inr (0, [.ref xt, .ref xp, .ref xs, .ref xl, .ref xb, .ref xk, .ref xm, .ref xq, .ref xg, .ref xf, .ref xe, .int 49])), (xl, .inr (2, [.ref bl, .ref no, .ref ro, .int 0]))]) [3, 2] rfl
  have hDc := hD.sub (ws' := [(ax, .inr (0, [.ref xt, .ref xp, .ref xs, .ref xl, .ref xb, .ref xk, .ref xm, .ref xq, .ref xg, .ref xf, .ref xe, .int 49])), (xl, .inr (2, [.ref bl, .ref no, .ref ro, .int 0]))]) [3, 2] (by decide) rfl
  have hFc := va_free (wc := [(ax, .inr (0, [.ref xt, .ref xp, .ref xs, .ref xl, .ref xb, .ref xk, .ref xm, .ref xq, .ref xg, .ref xf, .ref xe, .int 49])), (xl, .inr (2, [.ref bl, .ref no, .ref ro, .int 0]))]) hD hS hA [3, 2] rfl
  refine zx_call (E0 := "java/lang/IndexOutOfBoundsException") (vx_runV (As := [.int y0]) (rest := []) ⟨hx, hb, hml, hown, hw⟩ (c_checkChange_no l D dA dZ _ hfl ax xt xp xs xl xb xk xm xq xg xf xe bl no ro y0) (z_cwV 1 hw mw_789 mw_791 ms_16 mw_1 mw_792 rfl rfl (by decide +kernel) ⟨Nat.le_of_ble_eq_true rfl, Nat.le_of_ble_eq_true rfl⟩) (zPreV hPc hK hDc hT hE hS hFc (va_recv hK hP (ci := 0) (q0 := 3) rfl rfl)) rfl rfl hl.1 rfl (lv_room (Nat.le_of_ble_eq_true rfl)) dX11_counts_8 ⟨Nat.le_of_ble_eq_true rfl, Nat.le_of_ble_eq_true rfl⟩) hS (fun q _ h => hFc q h) hFc (fun ce q9 H1 locs hz1 hk1 hS hce hcv hcl => ?_)
  exact vx_out (fun x hx => (hno x hx).elim) hlocks hce hcv hcl (fun t ht ha => zX_at hS ht) hS.2.2 (Nat.le_of_ble_eq_true rfl) (Nat.le_of_ble_eq_true rfl)
set_option maxHeartbeats 4000000 in
set_option maxRecDepth 100000 in
/-- stands on a fresh object: none -/
theorem c_stands_none (l : Launch) (D : va_G) (dA : Nat → ClassId) (dZ : Nat → Nat) (sz : Nat) (hfl : l.stackTraces = false) (ax : Nat) (xt : Nat) (xp : Nat) (xs : Nat) (xl : Nat) (xb : Nat) (xk : Nat) (xm : Nat) (xq : Nat) (xg : Nat) (xf : Nat) (xe : Nat) (i : Nat) (fb : Nat → Option Nat) (bk : Nat) (b1 : Nat) (b2 : Nat) (b3 : Nat) (b4 : Nat) (hd : Int32) (bl : Nat) (no : Nat) (ro : Nat) (y0 : Int32) (hi : i < 3) (hf : fb i = some bk) : vx_Met l yX11_stands (wz yX11_stands cX11_stands 4 (some .boolean)) ({ frames := 14, cells := 1, slots := 6, locals := 400 } : Room) (va_Pc [.ref ax, .int (nI i), .int y0] (zP D dA dZ [(ax, .inr (0, [.ref xt, .ref xp, .ref xs, .ref xl, .ref xb, .ref xk, .ref xm, .ref xq, .ref xg, .ref xf, .ref xe, .int 49])), (xb, .inl (dA 6, 3, .inr (.inr (.inr (.inr fb))))), (bk, .inr (5, [.int hd, .ref xl, .ref b1, .ref b2, .ref b3, .ref b4, .int 0, .int 0, .int 0])), (b3, .inl (dA 1, 250, .inl (fun _ => 0))), (xl, .inr (2, [.ref bl, .ref no, .ref ro, .int 0]))] sz)) zNo (zX "java/lang/IndexOutOfBoundsException" (va_A [(ax, .inr (0, [.ref xt, .ref xp, .ref xs, .ref xl, .ref xb, .ref xk, .ref xm, .ref xq, .ref xg, .ref xf, .ref xe, .int 49])), (xb, .inl (dA 6, 3, .inr (.inr (.inr (.inr fb))))), (bk, .inr (5, [.int hd, .ref xl, .ref b1, .ref b2, .ref b3, .ref b4, .int 0, .int 0, .int 0])), (b3, .inl (dA 1, 250, .inl (fun _ => 0))), (xl, .inr (2, [.ref bl, .ref no, .ref ro, .int 0]))] sz)) 1 6 (va_A [(ax, .inr (0, [.ref xt, .ref xp, .ref xs, .ref xl, .ref xb, .ref xk, .ref xm, .ref xq, .ref xg, .ref xf, .ref xe, .int 49])), (xb, .inl (dA 6, 3, .inr (.inr (.inr (.inr fb))))), (bk, .inr (5, [.int hd, .ref xl, .ref b1, .ref b2, .ref b3, .ref b4, .int 0, .int 0, .int 0])), (b3, .inl (dA 1, 250, .inl (fun _ => 0))), (xl, .inr (2, [.ref bl, .ref no, .ref ro, .int 0]))] sz) := by
  refine vx_ofW (cc := cX11_stands) (maxL := 4) (ret := (some .boolean)) (by decide) rfl ?_
  intro p e s m args below meth c s₁ B hml hno hv
  obtain ⟨rfl, hsz, hP, hK, hD0, hT, hE⟩ := hv
  have hx := B.exec
  have hb := B.bytes
  have hr := B.returns
  have hw := wz_hw (atoms_spec (ws := wz yX11_stands cX11_stands 4 (some .boolean)) B.pre)
  have hown : s.vm.findClass "KindredBooks" = some m.cls := findClass_of_methodNamed B.named
  have hlocks := B.notSynchronized
  have hn := hT.1.use (args := ([.ref ax, .int (nI i), .int y0] : List Value).toArray)
  subst hsz
  have hD := hD0.self (sz := s.heap.size)
  generalize hAe : va_A [(ax, .inr (0, [.ref xt, .ref xp, .ref xs, .ref xl, .ref xb, .ref xk, .ref xm, .ref xq, .ref xg, .ref xf, .ref xe, .int 49])), (xb, .inl (dA 6, 3, .inr (.inr (.inr (.inr fb))))), (bk, .inr (5, [.int hd, .ref xl, .ref b1, .ref b2, .ref b3, .ref b4, .int 0, .int 0, .int 0])), (b3, .inl (dA 1, 250, .inl (fun _ => 0))), (xl, .inr (2, [.ref bl, .ref no, .ref ro, .int 0]))] s.heap.size = A at hD hE ⊢
  have hA : ∀ q : Nat, s.heap.size ≤ q → A q := fun q h => by rw [← hAe]; exact Or.inr h
  have hS : va_S A s.heap s.heap [] := va_S.rf
  replace hP : va_P D zcl [(ax, .inr (0, [.ref xt, .ref xp, .ref xs, .ref xl, .ref xb, .ref xk, .ref xm, .ref xq, .ref xg, .ref xf, .ref xe, .int 49])), (xb, .inl (dA 6, 3, .inr (.inr (.inr (.inr fb))))), (bk, .inr (5, [.int hd, .ref xl, .ref b1, .ref b2, .ref b3, .ref b4, .int 0, .int 0, .int 0])), (b3, .inl (dA 1, 250, .inl (fun _ => 0))), (xl, .inr (2, [.ref bl, .ref no, .ref ro, .int 0]))] s.heap := hP
  have hl := lv_entry ([.ref ax, .int (nI i), .int y0]) (n := 4) (Nat.le_of_ble_eq_true rfl)
  rw [lg_entry_eq]
  generalize (lg_sl ([.ref ax, .int (nI i), .int y0]) ++ List.replicate (4 - (lg_sl ([.ref ax, .int (nI i), .int y0])).length) Slot.unset).toArray = ls at hl ⊢
  replace hl : lv_has ls 4 [(0, .ref ax), (1, .int (nI i)), (2, .int y0)] := hl
  refine lv_aload_n hx hb dX11_stands_0 rfl (lv_at hl 0 rfl) ?_
  refine lv_iload_n hx hb dX11_stands_1 rfl (lv_at hl 1 rfl) ?_
  have hPc := hP.sub (ws' := [(ax, .inr (0, [.ref xt, .ref xp, .ref xs, .ref xl, .ref xb, .ref xk, .ref xm, .ref xq, .ref xg, .ref xf, .ref xe, .int 49])), (xb, .inl (dA 6, 3, .inr (.inr (.inr (.inr fb)))))]) [0, 1] rfl
  have hDc := hD.sub (ws' := [(ax, .inr (0, [.ref xt, .ref xp, .ref xs, .ref xl, .ref xb, .ref xk, .ref xm, .ref xq, .ref xg, .ref xf, .ref xe, .int 49])), (xb, .inl (dA 6, 3, .inr (.inr (.inr (.inr fb)))))]) [0, 1] (by decide) rfl
  have hFc := va_free (wc := [(ax, .inr (0, [.ref xt, .ref xp, .ref xs, .ref xl, .ref xb, .ref xk, .ref xm, .ref xq, .ref xg, .ref xf, .ref xe, .int 49])), (xb, .inl (dA 6, 3, .inr (.inr (.inr (.inr fb)))))]) hD hS hA [0, 1] rfl
  refine va_callq (va_runV (As := [.int (nI i)]) (rest := []) ⟨hx, hb, hml, hown, hw⟩ (c_bookOf l D dA dZ _ ax xt xp xs xl xb xk xm xq xg xf xe i fb bk hi hf) (z_cwV 1 hw mw_603 mw_605 ms_3 mw_1 mw_606 rfl rfl (by decide +kernel) ⟨Nat.le_of_ble_eq_true rfl, Nat.le_of_ble_eq_true rfl⟩) (zPreV hPc hK hDc hT hE hS hFc (va_recv hK hP (ci := 0) (q0 := 0) rfl rfl)) rfl rfl hl.1 rfl (lv_room (Nat.le_of_ble_eq_true rfl)) dX11_stands_2 ⟨Nat.le_of_ble_eq_true rfl, Nat.le_of_ble_eq_true rfl⟩) hS (fun q _ h => hFc q h) hFc (fun r_1 u t H1 locs ht hvm hpo hB hz1 hk1 hS => ?_)
  obtain ⟨hP1, hD1⟩ := hB
  rw [ht] at hP1
  obtain ⟨hP, hD⟩ := va_join (wr := [(bk, .inr (5, [.int hd, .ref xl, .ref b1, .ref b2, .ref b3, .ref b4, .int 0, .int 0, .int 0])), (b3, .inl (dA 1, 250, .inl (fun _ => 0))), (xl, .inr (2, [.ref bl, .ref no, .ref ro, .int 0]))]) (w1 := [(ax, .inr (0, [.ref xt, .ref xp, .ref xs, .ref xl, .ref xb, .ref xk, .ref xm, .ref xq, .ref xg, .ref xf, .ref xe, .int 49])), (xb, .inl (dA 6, 3, .inr (.inr (.inr (.inr fb)))))]) hP hD [0, 1] [2, 3, 4] rfl rfl (by decide) (by decide) hk1 hFc hP1 hD1
  generalize H1 = H at hP hS ⊢
  have hP : va_P D zcl [(bk, .inr (5, [.int hd, .ref xl, .ref b1, .ref b2, .ref b3, .ref b4, .int 0, .int 0, .int 0])), (b3, .inl (dA 1, 250, .inl (fun _ => 0))), (xl, .inr (2, [.ref bl, .ref no, .ref ro, .int 0])), (ax, .inr (0, [.ref xt, .ref xp, .ref xs, .ref xl, .ref xb, .ref xk, .ref xm, .ref xq, .ref xg, .ref xf, .ref xe, .int 49])), (xb, .inl (dA 6, 3, .inr (.inr (.inr (.inr fb)))))] H := hP
  have hD : va_D A [(bk, .inr (5, [.int hd, .ref xl, .ref b1, .ref b2, .ref b3, .ref b4, .int 0, .int 0, .int 0])), (b3, .inl (dA 1, 250, .inl (fun _ => 0))), (xl, .inr (2, [.ref bl, .ref no, .ref ro, .int 0])), (ax, .inr (0, [.ref xt, .ref xp, .ref xs, .ref xl, .ref xb, .ref xk, .ref xm, .ref xq, .ref xg, .ref xf, .ref xe, .int 49])), (xb, .inl (dA 6, 3, .inr (.inr (.inr (.inr fb)))))] := hD
  obtain rfl : r_1 = (some bk) := hpo
  refine lv_astore_n (lv' := [(3, .ref bk), (0, .ref ax), (1, .int (nI i)), (2, .int y0)]) hx hb dX11_stands_5 rfl hl (by decide) rfl (fun ls hl => ?_)
  refine lv_aload_n hx hb dX11_stands_6 rfl (lv_at hl 1 rfl) ?_
  refine lv_iload_n hx hb dX11_stands_7 rfl (lv_at hl 3 rfl) ?_
  have hPc := hP.sub (ws' := [(ax, .inr (0, [.ref xt, .ref xp, .ref xs, .ref xl, .ref xb, .ref xk, .ref xm, .ref xq, .ref xg, .ref xf, .ref xe, .int 49])), (xl, .inr (2, [.ref bl, .ref no, .ref ro, .int 0]))]) [3, 2] rfl
  have hDc := hD.sub (ws' := [(ax, .inr (0, [.ref xt, .ref xp, .ref xs, .ref xl, .ref xb, .ref xk, .ref xm, .ref xq, .ref xg, .ref xf, .ref xe, .int 49])), (xl, .inr (2, [.ref bl, .ref no, .ref ro, .int 0]))]) [3, 2] (by decide) rfl
  have hFc := va_free (wc := [(ax, .inr (0, [.ref xt, .ref xp, .ref xs, .ref xl, .ref xb, .ref xk, .ref xm, .ref xq, .ref xg, .ref xf, .ref xe, .int 49])), (xl, .inr (2, [.ref bl, .ref no, .ref ro, .int 0]))]) hD hS hA [3, 2] rfl
  refine zx_call (E0 := "java/lang/IndexOutOfBoundsException") (vx_runV (As := [.int y0]) (rest := []) ⟨hx, hb, hml, hown, hw⟩ (c_checkChange_no l D dA dZ _ hfl ax xt xp xs xl xb xk xm xq xg xf xe bl no ro y0) (z_cwV 1 hw mw_789 mw_791 ms_16 mw_1 mw_792 rfl rfl (by decide +kernel) ⟨Nat.le_of_ble_eq_true rfl, Nat.le_of_ble_eq_true rfl⟩) (zPreV hPc hK hDc hT hE hS hFc (va_recv hK hP (ci := 0) (q0 := 3) rfl rfl)) rfl rfl hl.1 rfl (lv_room (Nat.le_of_ble_eq_true rfl)) dX11_stands_8 ⟨Nat.le_of_ble_eq_true rfl, Nat.le_of_ble_eq_true rfl⟩) hS (fun q _ h => hFc q h) hFc (fun ce q9 H1 locs hz1 hk1 hS hce hcv hcl => ?_)
  exact vx_out (fun x hx => (hno x hx).elim) hlocks hce hcv hcl (fun t ht ha => zX_at hS ht) hS.2.2 (Nat.le_of_ble_eq_true rfl) (Nat.le_of_ble_eq_true rfl)
set_option maxHeartbeats 4000000 in
set_option maxRecDepth 100000 in
/-- latestOwn of an empty ledger -/
theorem c_latestOwn0 (l : Launch) (D : va_G) (dA : Nat → ClassId) (dZ : Nat → Nat) (sz : Nat) (bk : Nat) (xl : Nat) (b1 : Nat) (b2 : Nat) (b3 : Nat) (b4 : Nat) (hd : Int32) (bl : Nat) (no : Nat) (ro : Nat) : Met l yX1_latestOwn (wz yX1_latestOwn cX1_latestOwn 3 (some .int)) ({ frames := 0, cells := 0, slots := 0, locals := 0 } : Room) (va_Pc [.ref bk] (zP D dA dZ [(bk, .inr (5, [.int hd, .ref xl, .ref b1, .ref b2, .ref b3, .ref b4, .int 0, .int 0, .int 0])), (xl, .inr (2, [.ref bl, .ref no, .ref ro, .int 0]))] sz)) (va_Qi (fun (r : Int32) (_ : Unit) => r = (-1)) (fun _ => zB D (va_A [(bk, .inr (5, [.int hd, .ref xl, .ref b1, .ref b2, .ref b3, .ref b4, .int 0, .int 0, .int 0])), (xl, .inr (2, [.ref bl, .ref no, .ref ro, .int 0]))] sz) [(bk, .inr (5, [.int hd, .ref xl, .ref b1, .ref b2, .ref b3, .ref b4, .int 0, .int 0, .int 0])), (xl, .inr (2, [.ref bl, .ref no, .ref ro, .int 0]))]) (va_A [(bk, .inr (5, [.int hd, .ref xl, .ref b1, .ref b2, .ref b3, .ref b4, .int 0, .int 0, .int 0])), (xl, .inr (2, [.ref bl, .ref no, .ref ro, .int 0]))] sz)) 0 0 (va_A [(bk, .inr (5, [.int hd, .ref xl, .ref b1, .ref b2, .ref b3, .ref b4, .int 0, .int 0, .int 0])), (xl, .inr (2, [.ref bl, .ref no, .ref ro, .int 0]))] sz) := by
  refine Met.ofW (cc := cX1_latestOwn) (maxL := 3) (ret := (some .int)) (by decide) rfl ?_
  intro p e s m args below meth c s₁ B hml hv
  obtain ⟨rfl, hsz, hP, hK, hD0, hT, hE⟩ := hv
  have hx := B.exec
  have hb := B.bytes
  have hr := B.returns
  have hw := wz_hw (atoms_spec (ws := wz yX1_latestOwn cX1_latestOwn 3 (some .int)) B.pre)
  have hown : s.vm.findClass "KindredBooks$Book" = some m.cls := findClass_of_methodNamed B.named
  have hlocks := B.notSynchronized
  have hn := hT.1.use (args := ([.ref bk] : List Value).toArray)
  subst hsz
  have hD := hD0.self (sz := s.heap.size)
  generalize hAe : va_A [(bk, .inr (5, [.int hd, .ref xl, .ref b1, .ref b2, .ref b3, .ref b4, .int 0, .int 0, .int 0])), (xl, .inr (2, [.ref bl, .ref no, .ref ro, .int 0]))] s.heap.size = A at hD hE ⊢
  have hA : ∀ q : Nat, s.heap.size ≤ q → A q := fun q h => by rw [← hAe]; exact Or.inr h
  have hS : va_S A s.heap s.heap [] := va_S.rf
  replace hP : va_P D zcl [(bk, .inr (5, [.int hd, .ref xl, .ref b1, .ref b2, .ref b3, .ref b4, .int 0, .int 0, .int 0])), (xl, .inr (2, [.ref bl, .ref no, .ref ro, .int 0]))] s.heap := hP
  have hl := lv_entry ([.ref bk]) (n := 3) (Nat.le_of_ble_eq_true rfl)
  rw [lg_entry_eq]
  generalize (lg_sl ([.ref bk]) ++ List.replicate (3 - (lg_sl ([.ref bk])).length) Slot.unset).toArray = ls at hl ⊢
  replace hl : lv_has ls 3 [(0, .ref bk)] := hl
  refine lv_aload_n hx hb dX1_latestOwn_0 rfl (lv_at hl 0 rfl) ?_
  refine va_get (D := D) (ci := 5) (v := .ref xl) (C := "KindredBooks$Book") (T := T_zk5) (N := 9) hx hb hw in_zk5 hown hK hP 0 rfl rfl 1 (by decide) (hw _ mw_269) (fun _ h9 => h9) rfl dX1_latestOwn_1 ?_
  refine va_getN (D := D) (ci := 2) (v := .int 0) (C := "KindredBooks$Ledger") (T := T_zk2) (N := 4) hx hb hw in_zk2 hown hK hP 1 rfl rfl 3 (by decide) (hn _ mn_169) (fun _ h9 => h9) rfl dX1_latestOwn_4 ?_
  refine lv_iconst (v := 1) hx hb dX1_latestOwn_7 (by decide) ?_
  refine lv_isub hx hb dX1_latestOwn_8 ?_
  refine lv_topi (fun v_1 ev_1 => ?_)
  obtain rfl : v_1 = (-1) := ev_1.trans (by decide)
  refine lv_istore_n (lv' := [(1, .int (-1)), (0, .ref bk)]) hx hb dX1_latestOwn_9 rfl hl (by decide) rfl (fun ls hl => ?_)
  refine lv_iload_n hx hb dX1_latestOwn_10 rfl (lv_at hl 0 rfl) ?_
  refine lv_if_lt (tgt := 59) hx hb dX1_latestOwn_11 (by decide) (fun _ => ?_) (fun zc => absurd (by decide) zc)
  refine lv_iconst (v := (-1)) hx hb dX1_latestOwn_59 (by decide) ?_
  have hP9 := hP.sub (ws' := [(bk, .inr (5, [.int hd, .ref xl, .ref b1, .ref b2, .ref b3, .ref b4, .int 0, .int 0, .int 0])), (xl, .inr (2, [.ref bl, .ref no, .ref ro, .int 0]))]) [0, 1] rfl
  have hD9 := hD.sub (ws' := [(bk, .inr (5, [.int hd, .ref xl, .ref b1, .ref b2, .ref b3, .ref b4, .int 0, .int 0, .int 0])), (xl, .inr (2, [.ref bl, .ref no, .ref ro, .int 0]))]) [0, 1] (by decide) rfl
  exact W.iret (v := (-1)) hx hb hr (fun t ht hW => ⟨⟨(-1), (), rfl, rfl, by rw [ht]; exact hP9, hD9⟩, hS.F ht⟩) hS.2.2 dX1_latestOwn_60
set_option maxHeartbeats 4000000 in
set_option maxRecDepth 100000 in
/-- undo on a fresh object: none -/
theorem c_undo_none (l : Launch) (D : va_G) (dA : Nat → ClassId) (dZ : Nat → Nat) (sz : Nat) (ax : Nat) (xt : Nat) (xp : Nat) (xs : Nat) (xl : Nat) (xb : Nat) (xk : Nat) (xm : Nat) (xq : Nat) (xg : Nat) (xf : Nat) (xe : Nat) (i : Nat) (fb : Nat → Option Nat) (bk : Nat) (b1 : Nat) (b2 : Nat) (b3 : Nat) (b4 : Nat) (hd : Int32) (bl : Nat) (no : Nat) (ro : Nat) (hi : i < 3) (hf : fb i = some bk) : Met l yX11_undo (wz yX11_undo cX11_undo 4 (some .int)) ({ frames := 14, cells := 0, slots := 0, locals := 400 } : Room) (va_Pc [.ref ax, .int (nI i)] (zP D dA dZ [(ax, .inr (0, [.ref xt, .ref xp, .ref xs, .ref xl, .ref xb, .ref xk, .ref xm, .ref xq, .ref xg, .ref xf, .ref xe, .int 49])), (xb, .inl (dA 6, 3, .inr (.inr (.inr (.inr fb))))), (bk, .inr (5, [.int hd, .ref xl, .ref b1, .ref b2, .ref b3, .ref b4, .int 0, .int 0, .int 0])), (b3, .inl (dA 1, 250, .inl (fun _ => 0))), (xl, .inr (2, [.ref bl, .ref no, .ref ro, .int 0]))] sz)) (va_Qi (fun (r : Int32) (_ : Unit) => r = (-1)) (fun _ => zB D (va_A [(ax, .inr (0, [.ref xt, .ref xp, .ref xs, .ref xl, .ref xb, .ref xk, .ref xm, .ref xq, .ref xg, .ref xf, .ref xe, .int 49])), (xb, .inl (dA 6, 3, .inr (.inr (.inr (.inr fb))))), (bk, .inr (5, [.int hd, .ref xl, .ref b1, .ref b2, .ref b3, .ref b4, .int 0, .int 0, .int 0])), (b3, .inl (dA 1, 250, .inl (fun _ => 0))), (xl, .inr (2, [.ref bl, .ref no, .ref ro, .int 0]))] sz) [(ax, .inr (0, [.ref xt, .ref xp, .ref xs, .ref xl, .ref xb, .ref xk, .ref xm, .ref xq, .ref xg, .ref xf, .ref xe, .int 49])), (xb, .inl (dA 6, 3, .inr (.inr (.inr (.inr fb))))), (bk, .inr (5, [.int hd, .ref xl, .ref b1, .ref b2, .ref b3, .ref b4, .int 0, .int 0, .int 0])), (b3, .inl (dA 1, 250, .inl (fun _ => 0))), (xl, .inr (2, [.ref bl, .ref no, .ref ro, .int 0]))]) (va_A [(ax, .inr (0, [.ref xt, .ref xp, .ref xs, .ref xl, .ref xb, .ref xk, .ref xm, .ref xq, .ref xg, .ref xf, .ref xe, .int 49])), (xb, .inl (dA 6, 3, .inr (.inr (.inr (.inr fb))))), (bk, .inr (5, [.int hd, .ref xl, .ref b1, .ref b2, .ref b3, .ref b4, .int 0, .int 0, .int 0])), (b3, .inl (dA 1, 250, .inl (fun _ => 0))), (xl, .inr (2, [.ref bl, .ref no, .ref ro, .int 0]))] sz)) 0 0 (va_A [(ax, .inr (0, [.ref xt, .ref xp, .ref xs, .ref xl, .ref xb, .ref xk, .ref xm, .ref xq, .ref xg, .ref xf, .ref xe, .int 49])), (xb, .inl (dA 6, 3, .inr (.inr (.inr (.inr fb))))), (bk, .inr (5, [.int hd, .ref xl, .ref b1, .ref b2, .ref b3, .ref b4, .int 0, .int 0, .int 0])), (b3, .inl (dA 1, 250, .inl (fun _ => 0))), (xl, .inr (2, [.ref bl, .ref no, .ref ro, .int 0]))] sz) := by
  refine Met.ofW (cc := cX11_undo) (maxL := 4) (ret := (some .int)) (by decide) rfl ?_
  intro p e s m args below meth c s₁ B hml hv
  obtain ⟨rfl, hsz, hP, hK, hD0, hT, hE⟩ := hv
  have hx := B.exec
  have hb := B.bytes
  have hr := B.returns
  have hw := wz_hw (atoms_spec (ws := wz yX11_undo cX11_undo 4 (some .int)) B.pre)
  have hown : s.vm.findClass "KindredBooks" = some m.cls := findClass_of_methodNamed B.named
  have hlocks := B.notSynchronized
  have hn := hT.1.use (args := ([.ref ax, .int (nI i)] : List Value).toArray)
  subst hsz
  have hD := hD0.self (sz := s.heap.size)
  generalize hAe : va_A [(ax, .inr (0, [.ref xt, .ref xp, .ref xs, .ref xl, .ref xb, .ref xk, .ref xm, .ref xq, .ref xg, .ref xf, .ref xe, .int 49])), (xb, .inl (dA 6, 3, .inr (.inr (.inr (.inr fb))))), (bk, .inr (5, [.int hd, .ref xl, .ref b1, .ref b2, .ref b3, .ref b4, .int 0, .int 0, .int 0])), (b3, .inl (dA 1, 250, .inl (fun _ => 0))), (xl, .inr (2, [.ref bl, .ref no, .ref ro, .int 0]))] s.heap.size = A at hD hE ⊢
  have hA : ∀ q : Nat, s.heap.size ≤ q → A q := fun q h => by rw [← hAe]; exact Or.inr h
  have hS : va_S A s.heap s.heap [] := va_S.rf
  replace hP : va_P D zcl [(ax, .inr (0, [.ref xt, .ref xp, .ref xs, .ref xl, .ref xb, .ref xk, .ref xm, .ref xq, .ref xg, .ref xf, .ref xe, .int 49])), (xb, .inl (dA 6, 3, .inr (.inr (.inr (.inr fb))))), (bk, .inr (5, [.int hd, .ref xl, .ref b1, .ref b2, .ref b3, .ref b4, .int 0, .int 0, .int 0])), (b3, .inl (dA 1, 250, .inl (fun _ => 0))), (xl, .inr (2, [.ref bl, .ref no, .ref ro, .int 0]))] s.heap := hP
  have hl := lv_entry ([.ref ax, .int (nI i)]) (n := 4) (Nat.le_of_ble_eq_true rfl)
  rw [lg_entry_eq]
  generalize (lg_sl ([.ref ax, .int (nI i)]) ++ List.replicate (4 - (lg_sl ([.ref ax, .int (nI i)])).length) Slot.unset).toArray = ls at hl ⊢
  replace hl : lv_has ls 4 [(0, .ref ax), (1, .int (nI i))] := hl
  refine lv_aload_n hx hb dX11_undo_0 rfl (lv_at hl 0 rfl) ?_
  refine lv_iload_n hx hb dX11_undo_1 rfl (lv_at hl 1 rfl) ?_
  have hPc := hP.sub (ws' := [(ax, .inr (0, [.ref xt, .ref xp, .ref xs, .ref xl, .ref xb, .ref xk, .ref xm, .ref xq, .ref xg, .ref xf, .ref xe, .int 49])), (xb, .inl (dA 6, 3, .inr (.inr (.inr (.inr fb)))))]) [0, 1] rfl
  have hDc := hD.sub (ws' := [(ax, .inr (0, [.ref xt, .ref xp, .ref xs, .ref xl, .ref xb, .ref xk, .ref xm, .ref xq, .ref xg, .ref xf, .ref xe, .int 49])), (xb, .inl (dA 6, 3, .inr (.inr (.inr (.inr fb)))))]) [0, 1] (by decide) rfl
  have hFc := va_free (wc := [(ax, .inr (0, [.ref xt, .ref xp, .ref xs, .ref xl, .ref xb, .ref xk, .ref xm, .ref xq, .ref xg, .ref xf, .ref xe, .int 49])), (xb, .inl (dA 6, 3, .inr (.inr (.inr (.inr fb)))))]) hD hS hA [0, 1] rfl
  refine va_callq (va_runV (As := [.int (nI i)]) (rest := []) ⟨hx, hb, hml, hown, hw⟩ (c_bookOf l D dA dZ _ ax xt xp xs xl xb xk xm xq xg xf xe i fb bk hi hf) (z_cwV 1 hw mw_603 mw_605 ms_3 mw_1 mw_606 rfl rfl (by decide +kernel) ⟨Nat.le_of_ble_eq_true rfl, Nat.le_of_ble_eq_true rfl⟩) (zPreV hPc hK hDc hT hE hS hFc (va_recv hK hP (ci := 0) (q0 := 0) rfl rfl)) rfl rfl hl.1 rfl (lv_room (Nat.le_of_ble_eq_true rfl)) dX11_undo_2 ⟨Nat.le_of_ble_eq_true rfl, Nat.le_of_ble_eq_true rfl⟩) hS (fun q _ h => hFc q h) hFc (fun r_1 u t H1 locs ht hvm hpo hB hz1 hk1 hS => ?_)
  obtain ⟨hP1, hD1⟩ := hB
  rw [ht] at hP1
  obtain ⟨hP, hD⟩ := va_join (wr := [(bk, .inr (5, [.int hd, .ref xl, .ref b1, .ref b2, .ref b3, .ref b4, .int 0, .int 0, .int 0])), (b3, .inl (dA 1, 250, .inl (fun _ => 0))), (xl, .inr (2, [.ref bl, .ref no, .ref ro, .int 0]))]) (w1 := [(ax, .inr (0, [.ref xt, .ref xp, .ref xs, .ref xl, .ref xb, .ref xk, .ref xm, .ref xq, .ref xg, .ref xf, .ref xe, .int 49])), (xb, .inl (dA 6, 3, .inr (.inr (.inr (.inr fb)))))]) hP hD [0, 1] [2, 3, 4] rfl rfl (by decide) (by decide) hk1 hFc hP1 hD1
  generalize H1 = H at hP hS ⊢
  have hP : va_P D zcl [(bk, .inr (5, [.int hd, .ref xl, .ref b1, .ref b2, .ref b3, .ref b4, .int 0, .int 0, .int 0])), (b3, .inl (dA 1, 250, .inl (fun _ => 0))), (xl, .inr (2, [.ref bl, .ref no, .ref ro, .int 0])), (ax, .inr (0, [.ref xt, .ref xp, .ref xs, .ref xl, .ref xb, .ref xk, .ref xm, .ref xq, .ref xg, .ref xf, .ref xe, .int 49])), (xb, .inl (dA 6, 3, .inr (.inr (.inr (.inr fb)))))] H := hP
  have hD : va_D A [(bk, .inr (5, [.int hd, .ref xl, .ref b1, .ref b2, .ref b3, .ref b4, .int 0, .int 0, .int 0])), (b3, .inl (dA 1, 250, .inl (fun _ => 0))), (xl, .inr (2, [.ref bl, .ref no, .ref ro, .int 0])), (ax, .inr (0, [.ref xt, .ref xp, .ref xs, .ref xl, .ref xb, .ref xk, .ref xm, .ref xq, .ref xg, .ref xf, .ref xe, .int 49])), (xb, .inl (dA 6, 3, .inr (.inr (.inr (.inr fb)))))] := hD
  obtain rfl : r_1 = (some bk) := hpo
  refine lv_astore_n (lv' := [(2, .ref bk), (0, .ref ax), (1, .int (nI i))]) hx hb dX11_undo_5 rfl hl (by decide) rfl (fun ls hl => ?_)
  refine lv_aload_n hx hb dX11_undo_6 rfl (lv_at hl 0 rfl) ?_
  have hPc := hP.sub (ws' := [(bk, .inr (5, [.int hd, .ref xl, .ref b1, .ref b2, .ref b3, .ref b4, .int 0, .int 0, .int 0])), (xl, .inr (2, [.ref bl, .ref no, .ref ro, .int 0]))]) [0, 2] rfl
  have hDc := hD.sub (ws' := [(bk, .inr (5, [.int hd, .ref xl, .ref b1, .ref b2, .ref b3, .ref b4, .int 0, .int 0, .int 0])), (xl, .inr (2, [.ref bl, .ref no, .ref ro, .int 0]))]) [0, 2] (by decide) rfl
  have hFc := va_free (wc := [(bk, .inr (5, [.int hd, .ref xl, .ref b1, .ref b2, .ref b3, .ref b4, .int 0, .int 0, .int 0])), (xl, .inr (2, [.ref bl, .ref no, .ref ro, .int 0]))]) hD hS hA [0, 2] rfl
  refine va_calli (va_runV (As := []) (rest := []) ⟨hx, hb, hml, hown, hw⟩ (c_latestOwn0 l D dA dZ _ bk xl b1 b2 b3 b4 hd bl no ro) (z_cwV 0 hw mw_806 mw_807 mw_808 mw_9 mw_809 rfl rfl (by decide +kernel) ⟨Nat.le_of_ble_eq_true rfl, Nat.le_of_ble_eq_true rfl⟩) (zPreV hPc hK hDc hT hE hS hFc (va_recv hK hP (ci := 5) (q0 := 0) rfl rfl)) rfl rfl hl.1 rfl (lv_room (Nat.le_of_ble_eq_true rfl)) dX11_undo_7 ⟨Nat.le_of_ble_eq_true rfl, Nat.le_of_ble_eq_true rfl⟩) hS (fun q _ h => hFc q h) hFc (fun r_2 u t H1 locs ht hvm hpo hB hz1 hk1 hS => ?_)
  obtain ⟨hP1, hD1⟩ := hB
  rw [ht] at hP1
  obtain ⟨hP, hD⟩ := va_join (wr := [(b3, .inl (dA 1, 250, .inl (fun _ => 0))), (ax, .inr (0, [.ref xt, .ref xp, .ref xs, .ref xl, .ref xb, .ref xk, .ref xm, .ref xq, .ref xg, .ref xf, .ref xe, .int 49])), (xb, .inl (dA 6, 3, .inr (.inr (.inr (.inr fb)))))]) (w1 := [(bk, .inr (5, [.int hd, .ref xl, .ref b1, .ref b2, .ref b3, .ref b4, .int 0, .int 0, .int 0])), (xl, .inr (2, [.ref bl, .ref no, .ref ro, .int 0]))]) hP hD [0, 2] [1, 3, 4] rfl rfl (by decide) (by decide) hk1 hFc hP1 hD1
  generalize H1 = H at hP hS ⊢
  have hP : va_P D zcl [(b3, .inl (dA 1, 250, .inl (fun _ => 0))), (ax, .inr (0, [.ref xt, .ref xp, .ref xs, .ref xl, .ref xb, .ref xk, .ref xm, .ref xq, .ref xg, .ref xf, .ref xe, .int 49])), (xb, .inl (dA 6, 3, .inr (.inr (.inr (.inr fb))))), (bk, .inr (5, [.int hd, .ref xl, .ref b1, .ref b2, .ref b3, .ref b4, .int 0, .int 0, .int 0])), (xl, .inr (2, [.ref bl, .ref no, .ref ro, .int 0]))] H := hP
  have hD : va_D A [(b3, .inl (dA 1, 250, .inl (fun _ => 0))), (ax, .inr (0, [.ref xt, .ref xp, .ref xs, .ref xl, .ref xb, .ref xk, .ref xm, .ref xq, .ref xg, .ref xf, .ref xe, .int 49])), (xb, .inl (dA 6, 3, .inr (.inr (.inr (.inr fb))))), (bk, .inr (5, [.int hd, .ref xl, .ref b1, .ref b2, .ref b3, .ref b4, .int 0, .int 0, .int 0])), (xl, .inr (2, [.ref bl, .ref no, .ref ro, .int 0]))] := hD
  obtain rfl : r_2 = (-1) := hpo
  refine lv_istore_n (lv' := [(3, .int (-1)), (2, .ref bk), (0, .ref ax), (1, .int (nI i))]) hx hb dX11_undo_10 rfl hl (by decide) rfl (fun ls hl => ?_)
  refine lv_iload_n hx hb dX11_undo_11 rfl (lv_at hl 0 rfl) ?_
  refine lv_iconst (v := (-1)) hx hb dX11_undo_12 (by decide) ?_
  refine lv_icmp_ne (tgt := 18) hx hb dX11_undo_13 (by decide) (fun zc => absurd (by decide) zc) (fun _ => ?_)
  refine lv_iconst (v := (-1)) hx hb dX11_undo_16 (by decide) ?_
  have hP9 := hP.sub (ws' := [(ax, .inr (0, [.ref xt, .ref xp, .ref xs, .ref xl, .ref xb, .ref xk, .ref xm, .ref xq, .ref xg, .ref xf, .ref xe, .int 49])), (xb, .inl (dA 6, 3, .inr (.inr (.inr (.inr fb))))), (bk, .inr (5, [.int hd, .ref xl, .ref b1, .ref b2, .ref b3, .ref b4, .int 0, .int 0, .int 0])), (b3, .inl (dA 1, 250, .inl (fun _ => 0))), (xl, .inr (2, [.ref bl, .ref no, .ref ro, .int 0]))]) [1, 2, 3, 0, 4] rfl
  have hD9 := hD.sub (ws' := [(ax, .inr (0, [.ref xt, .ref xp, .ref xs, .ref xl, .ref xb, .ref xk, .ref xm, .ref xq, .ref xg, .ref xf, .ref xe, .int 49])), (xb, .inl (dA 6, 3, .inr (.inr (.inr (.inr fb))))), (bk, .inr (5, [.int hd, .ref xl, .ref b1, .ref b2, .ref b3, .ref b4, .int 0, .int 0, .int 0])), (b3, .inl (dA 1, 250, .inl (fun _ => 0))), (xl, .inr (2, [.ref bl, .ref no, .ref ro, .int 0]))]) [1, 2, 3, 0, 4] (by decide) rfl
  exact W.iret (v := (-1)) hx hb hr (fun t ht hW => ⟨⟨(-1), (), rfl, rfl, by rw [ht]; exact hP9, hD9⟩, hS.F ht⟩) hS.2.2 dX11_undo_17
set_option maxHeartbeats 4000000 in
set_option maxRecDepth 100000 in
/-- known on a fresh object: ok -/
theorem c_known_ok (l : Launch) (D : va_G) (dA : Nat → ClassId) (dZ : Nat → Nat) (sz : Nat) (ax : Nat) (xt : Nat) (xp : Nat) (xs : Nat) (xl : Nat) (xb : Nat) (xk : Nat) (xm : Nat) (xq : Nat) (xg : Nat) (xf : Nat) (xe : Nat) (i : Nat) (fb : Nat → Option Nat) (bk : Nat) (b1 : Nat) (b2 : Nat) (b3 : Nat) (b4 : Nat) (hd : Int32) (bl : Nat) (no : Nat) (ro : Nat) (hi : i < 3) (hf : fb i = some bk) : Met l yX11_known (wz yX11_known cX11_known 2 (some .int)) ({ frames := 14, cells := 0, slots := 0, locals := 400 } : Room) (va_Pc [.ref ax, .int (nI i)] (zP D dA dZ [(ax, .inr (0, [.ref xt, .ref xp, .ref xs, .ref xl, .ref xb, .ref xk, .ref xm, .ref xq, .ref xg, .ref xf, .ref xe, .int 49])), (xb, .inl (dA 6, 3, .inr (.inr (.inr (.inr fb))))), (bk, .inr (5, [.int hd, .ref xl, .ref b1, .ref b2, .ref b3, .ref b4, .int 0, .int 0, .int 0])), (b3, .inl (dA 1, 250, .inl (fun _ => 0))), (xl, .inr (2, [.ref bl, .ref no, .ref ro, .int 0]))] sz)) (va_Qi (fun (r : Int32) (_ : Unit) => r = 0) (fun _ => zB D (va_A [(ax, .inr (0, [.ref xt, .ref xp, .ref xs, .ref xl, .ref xb, .ref xk, .ref xm, .ref xq, .ref xg, .ref xf, .ref xe, .int 49])), (xb, .inl (dA 6, 3, .inr (.inr (.inr (.inr fb))))), (bk, .inr (5, [.int hd, .ref xl, .ref b1, .ref b2, .ref b3, .ref b4, .int 0, .int 0, .int 0])), (b3, .inl (dA 1, 250, .inl (fun _ => 0))), (xl, .inr (2, [.ref bl, .ref no, .ref ro, .int 0]))] sz) [(ax, .inr (0, [.ref xt, .ref xp, .ref xs, .ref xl, .ref xb, .ref xk, .ref xm, .ref xq, .ref xg, .ref xf, .ref xe, .int 49])), (xb, .inl (dA 6, 3, .inr (.inr (.inr (.inr fb))))), (bk, .inr (5, [.int hd, .ref xl, .ref b1, .ref b2, .ref b3, .ref b4, .int 0, .int 0, .int 0])), (b3, .inl (dA 1, 250, .inl (fun _ => 0))), (xl, .inr (2, [.ref bl, .ref no, .ref ro, .int 0]))]) (va_A [(ax, .inr (0, [.ref xt, .ref xp, .ref xs, .ref xl, .ref xb, .ref xk, .ref xm, .ref xq, .ref xg, .ref xf, .ref xe, .int 49])), (xb, .inl (dA 6, 3, .inr (.inr (.inr (.inr fb))))), (bk, .inr (5, [.int hd, .ref xl, .ref b1, .ref b2, .ref b3, .ref b4, .int 0, .int 0, .int 0])), (b3, .inl (dA 1, 250, .inl (fun _ => 0))), (xl, .inr (2, [.ref bl, .ref no, .ref ro, .int 0]))] sz)) 0 0 (va_A [(ax, .inr (0, [.ref xt, .ref xp, .ref xs, .ref xl, .ref xb, .ref xk, .ref xm, .ref xq, .ref xg, .ref xf, .ref xe, .int 49])), (xb, .inl (dA 6, 3, .inr (.inr (.inr (.inr fb))))), (bk, .inr (5, [.int hd, .ref xl, .ref b1, .ref b2, .ref b3, .ref b4, .int 0, .int 0, .int 0])), (b3, .inl (dA 1, 250, .inl (fun _ => 0))), (xl, .inr (2, [.ref bl, .ref no, .ref ro, .int 0]))] sz) := by
  refine Met.ofW (cc := cX11_known) (maxL := 2) (ret := (some .int)) (by decide) rfl ?_
  intro p e s m args below meth c s₁ B hml hv
  obtain ⟨rfl, hsz, hP, hK, hD0, hT, hE⟩ := hv
  have hx := B.exec
  have hb := B.bytes
  have hr := B.returns
  have hw := wz_hw (atoms_spec (ws := wz yX11_known cX11_known 2 (some .int)) B.pre)
  have hown : s.vm.findClass "KindredBooks" = some m.cls := findClass_of_methodNamed B.named
  have hlocks := B.notSynchronized
  have hn := hT.1.use (args := ([.ref ax, .int (nI i)] : List Value).toArray)
  subst hsz
  have hD := hD0.self (sz := s.heap.size)
  generalize hAe : va_A [(ax, .inr (0, [.ref xt, .ref xp, .ref xs, .ref xl, .ref xb, .ref xk, .ref xm, .ref xq, .ref xg, .ref xf, .ref xe, .int 49])), (xb, .inl (dA 6, 3, .inr (.inr (.inr (.inr fb))))), (bk, .inr (5, [.int hd, .ref xl, .ref b1, .ref b2, .ref b3, .ref b4, .int 0, .int 0, .int 0])), (b3, .inl (dA 1, 250, .inl (fun _ => 0))), (xl, .inr (2, [.ref bl, .ref no, .ref ro, .int 0]))] s.heap.size = A at hD hE ⊢
  have hA : ∀ q : Nat, s.heap.size ≤ q → A q := fun q h => by rw [← hAe]; exact Or.inr h
  have hS : va_S A s.heap s.heap [] := va_S.rf
  replace hP : va_P D zcl [(ax, .inr (0, [.ref xt, .ref xp, .ref xs, .ref xl, .ref xb, .ref xk, .ref xm, .ref xq, .ref xg, .ref xf, .ref xe, .int 49])), (xb, .inl (dA 6, 3, .inr (.inr (.inr (.inr fb))))), (bk, .inr (5, [.int hd, .ref xl, .ref b1, .ref b2, .ref b3, .ref b4, .int 0, .int 0, .int 0])), (b3, .inl (dA 1, 250, .inl (fun _ => 0))), (xl, .inr (2, [.ref bl, .ref no, .ref ro, .int 0]))] s.heap := hP
  have hl := lv_entry ([.ref ax, .int (nI i)]) (n := 2) (Nat.le_of_ble_eq_true rfl)
  rw [lg_entry_eq]
  generalize (lg_sl ([.ref ax, .int (nI i)]) ++ List.replicate (2 - (lg_sl ([.ref ax, .int (nI i)])).length) Slot.unset).toArray = ls at hl ⊢
  replace hl : lv_has ls 2 [(0, .ref ax), (1, .int (nI i))] := hl
  refine lv_aload_n hx hb dX11_known_0 rfl (lv_at hl 0 rfl) ?_
  refine lv_iload_n hx hb dX11_known_1 rfl (lv_at hl 1 rfl) ?_
  have hPc := hP.sub (ws' := [(ax, .inr (0, [.ref xt, .ref xp, .ref xs, .ref xl, .ref xb, .ref xk, .ref xm, .ref xq, .ref xg, .ref xf, .ref xe, .int 49])), (xb, .inl (dA 6, 3, .inr (.inr (.inr (.inr fb)))))]) [0, 1] rfl
  have hDc := hD.sub (ws' := [(ax, .inr (0, [.ref xt, .ref xp, .ref xs, .ref xl, .ref xb, .ref xk, .ref xm, .ref xq, .ref xg, .ref xf, .ref xe, .int 49])), (xb, .inl (dA 6, 3, .inr (.inr (.inr (.inr fb)))))]) [0, 1] (by decide) rfl
  have hFc := va_free (wc := [(ax, .inr (0, [.ref xt, .ref xp, .ref xs, .ref xl, .ref xb, .ref xk, .ref xm, .ref xq, .ref xg, .ref xf, .ref xe, .int 49])), (xb, .inl (dA 6, 3, .inr (.inr (.inr (.inr fb)))))]) hD hS hA [0, 1] rfl
  refine va_callq (va_runV (As := [.int (nI i)]) (rest := []) ⟨hx, hb, hml, hown, hw⟩ (c_bookOf l D dA dZ _ ax xt xp xs xl xb xk xm xq xg xf xe i fb bk hi hf) (z_cwV 1 hw mw_603 mw_605 ms_3 mw_1 mw_606 rfl rfl (by decide +kernel) ⟨Nat.le_of_ble_eq_true rfl, Nat.le_of_ble_eq_true rfl⟩) (zPreV hPc hK hDc hT hE hS hFc (va_recv hK hP (ci := 0) (q0 := 0) rfl rfl)) rfl rfl hl.1 rfl (lv_room (Nat.le_of_ble_eq_true rfl)) dX11_known_2 ⟨Nat.le_of_ble_eq_true rfl, Nat.le_of_ble_eq_true rfl⟩) hS (fun q _ h => hFc q h) hFc (fun r_1 u t H1 locs ht hvm hpo hB hz1 hk1 hS => ?_)
  obtain ⟨hP1, hD1⟩ := hB
  rw [ht] at hP1
  obtain ⟨hP, hD⟩ := va_join (wr := [(bk, .inr (5, [.int hd, .ref xl, .ref b1, .ref b2, .ref b3, .ref b4, .int 0, .int 0, .int 0])), (b3, .inl (dA 1, 250, .inl (fun _ => 0))), (xl, .inr (2, [.ref bl, .ref no, .ref ro, .int 0]))]) (w1 := [(ax, .inr (0, [.ref xt, .ref xp, .ref xs, .ref xl, .ref xb, .ref xk, .ref xm, .ref xq, .ref xg, .ref xf, .ref xe, .int 49])), (xb, .inl (dA 6, 3, .inr (.inr (.inr (.inr fb)))))]) hP hD [0, 1] [2, 3, 4] rfl rfl (by decide) (by decide) hk1 hFc hP1 hD1
  generalize H1 = H at hP hS ⊢
  have hP : va_P D zcl [(bk, .inr (5, [.int hd, .ref xl, .ref b1, .ref b2, .ref b3, .ref b4, .int 0, .int 0, .int 0])), (b3, .inl (dA 1, 250, .inl (fun _ => 0))), (xl, .inr (2, [.ref bl, .ref no, .ref ro, .int 0])), (ax, .inr (0, [.ref xt, .ref xp, .ref xs, .ref xl, .ref xb, .ref xk, .ref xm, .ref xq, .ref xg, .ref xf, .ref xe, .int 49])), (xb, .inl (dA 6, 3, .inr (.inr (.inr (.inr fb)))))] H := hP
  have hD : va_D A [(bk, .inr (5, [.int hd, .ref xl, .ref b1, .ref b2, .ref b3, .ref b4, .int 0, .int 0, .int 0])), (b3, .inl (dA 1, 250, .inl (fun _ => 0))), (xl, .inr (2, [.ref bl, .ref no, .ref ro, .int 0])), (ax, .inr (0, [.ref xt, .ref xp, .ref xs, .ref xl, .ref xb, .ref xk, .ref xm, .ref xq, .ref xg, .ref xf, .ref xe, .int 49])), (xb, .inl (dA 6, 3, .inr (.inr (.inr (.inr fb)))))] := hD
  obtain rfl : r_1 = (some bk) := hpo
  refine va_getN (D := D) (ci := 5) (v := .int 0) (C := "KindredBooks$Book") (T := T_zk5) (N := 9) hx hb hw in_zk5 hown hK hP 0 rfl rfl 6 (by decide) (hn _ mn_276) (fun _ h9 => h9) rfl dX11_known_5 ?_
  have hP9 := hP.sub (ws' := [(ax, .inr (0, [.ref xt, .ref xp, .ref xs, .ref xl, .ref xb, .ref xk, .ref xm, .ref xq, .ref xg, .ref xf, .ref xe, .int 49])), (xb, .inl (dA 6, 3, .inr (.inr (.inr (.inr fb))))), (bk, .inr (5, [.int hd, .ref xl, .ref b1, .ref b2, .ref b3, .ref b4, .int 0, .int 0, .int 0])), (b3, .inl (dA 1, 250, .inl (fun _ => 0))), (xl, .inr (2, [.ref bl, .ref no, .ref ro, .int 0]))]) [3, 4, 0, 1, 2] rfl
  have hD9 := hD.sub (ws' := [(ax, .inr (0, [.ref xt, .ref xp, .ref xs, .ref xl, .ref xb, .ref xk, .ref xm, .ref xq, .ref xg, .ref xf, .ref xe, .int 49])), (xb, .inl (dA 6, 3, .inr (.inr (.inr (.inr fb))))), (bk, .inr (5, [.int hd, .ref xl, .ref b1, .ref b2, .ref b3, .ref b4, .int 0, .int 0, .int 0])), (b3, .inl (dA 1, 250, .inl (fun _ => 0))), (xl, .inr (2, [.ref bl, .ref no, .ref ro, .int 0]))]) [3, 4, 0, 1, 2] (by decide) rfl
  exact W.iret (v := 0) hx hb hr (fun t ht hW => ⟨⟨0, (), rfl, rfl, by rw [ht]; exact hP9, hD9⟩, hS.F ht⟩) hS.2.2 dX11_known_8
set_option maxHeartbeats 4000000 in
set_option maxRecDepth 100000 in
/-- learnFrom with an empty ledger -/
theorem c_learnFrom0 (l : Launch) (D : va_G) (dA : Nat → ClassId) (dZ : Nat → Nat) (sz : Nat) (bk : Nat) (xl : Nat) (o9 : Nat) (b1 : Nat) (b2 : Nat) (b3 : Nat) (b4 : Nat) (hd : Int32) (bl : Nat) (no : Nat) (ro : Nat) : Met l yX1_learnFrom (wz yX1_learnFrom cX1_learnFrom 4 (some .int)) ({ frames := 0, cells := 0, slots := 0, locals := 0 } : Room) (va_Pc [.ref bk, .ref o9] (zP D dA dZ [(bk, .inr (5, [.int hd, .ref xl, .ref b1, .ref b2, .ref b3, .ref b4, .int 0, .int 0, .int 0])), (xl, .inr (2, [.ref bl, .ref no, .ref ro, .int 0]))] sz)) (va_Qi (fun (r : Int32) (_ : Unit) => r = 0) (fun _ => zB D (va_A [(bk, .inr (5, [.int hd, .ref xl, .ref b1, .ref b2, .ref b3, .ref b4, .int 0, .int 0, .int 0])), (xl, .inr (2, [.ref bl, .ref no, .ref ro, .int 0]))] sz) [(bk, .inr (5, [.int hd, .ref xl, .ref b1, .ref b2, .ref b3, .ref b4, .int 0, .int 0, .int 0])), (xl, .inr (2, [.ref bl, .ref no, .ref ro, .int 0]))]) (va_A [(bk, .inr (5, [.int hd, .ref xl, .ref b1, .ref b2, .ref b3, .ref b4, .int 0, .int 0, .int 0])), (xl, .inr (2, [.ref bl, .ref no, .ref ro, .int 0]))] sz)) 0 0 (va_A [(bk, .inr (5, [.int hd, .ref xl, .ref b1, .ref b2, .ref b3, .ref b4, .int 0, .int 0, .int 0])), (xl, .inr (2, [.ref bl, .ref no, .ref ro, .int 0]))] sz) := by
  refine Met.ofW (cc := cX1_learnFrom) (maxL := 4) (ret := (some .int)) (by decide) rfl ?_
  intro p e s m args below meth c s₁ B hml hv
  obtain ⟨rfl, hsz, hP, hK, hD0, hT, hE⟩ := hv
  have hx := B.exec
  have hb := B.bytes
  have hr := B.returns
  have hw := wz_hw (atoms_spec (ws := wz yX1_learnFrom cX1_learnFrom 4 (some .int)) B.pre)
  have hown : s.vm.findClass "KindredBooks$Book" = some m.cls := findClass_of_methodNamed B.named
  have hlocks := B.notSynchronized
  have hn := hT.1.use (args := ([.ref bk, .ref o9] : List Value).toArray)
  subst hsz
  have hD := hD0.self (sz := s.heap.size)
  generalize hAe : va_A [(bk, .inr (5, [.int hd, .ref xl, .ref b1, .ref b2, .ref b3, .ref b4, .int 0, .int 0, .int 0])), (xl, .inr (2, [.ref bl, .ref no, .ref ro, .int 0]))] s.heap.size = A at hD hE ⊢
  have hA : ∀ q : Nat, s.heap.size ≤ q → A q := fun q h => by rw [← hAe]; exact Or.inr h
  have hS : va_S A s.heap s.heap [] := va_S.rf
  replace hP : va_P D zcl [(bk, .inr (5, [.int hd, .ref xl, .ref b1, .ref b2, .ref b3, .ref b4, .int 0, .int 0, .int 0])), (xl, .inr (2, [.ref bl, .ref no, .ref ro, .int 0]))] s.heap := hP
  have hl := lv_entry ([.ref bk, .ref o9]) (n := 4) (Nat.le_of_ble_eq_true rfl)
  rw [lg_entry_eq]
  generalize (lg_sl ([.ref bk, .ref o9]) ++ List.replicate (4 - (lg_sl ([.ref bk, .ref o9])).length) Slot.unset).toArray = ls at hl ⊢
  replace hl : lv_has ls 4 [(0, .ref bk), (1, .ref o9)] := hl
  refine lv_aload_n hx hb dX1_learnFrom_0 rfl (lv_at hl 0 rfl) ?_
  refine va_get (D := D) (ci := 5) (v := .int 0) (C := "KindredBooks$Book") (T := T_zk5) (N := 9) hx hb hw in_zk5 hown hK hP 0 rfl rfl 6 (by decide) (hw _ mw_275) (fun _ h9 => h9) rfl dX1_learnFrom_1 ?_
  refine lv_istore_n (lv' := [(2, .int 0), (0, .ref bk), (1, .ref o9)]) hx hb dX1_learnFrom_4 rfl hl (by decide) rfl (fun ls hl => ?_)
  refine lv_iconst (v := 0) hx hb dX1_learnFrom_5 (by decide) ?_
  refine lv_istore_n (lv' := [(3, .int 0), (2, .int 0), (0, .ref bk), (1, .ref o9)]) hx hb dX1_learnFrom_6 rfl hl (by decide) rfl (fun ls hl => ?_)
  refine lv_iload_n hx hb dX1_learnFrom_7 rfl (lv_at hl 0 rfl) ?_
  refine lv_aload_n hx hb dX1_learnFrom_8 rfl (lv_at hl 2 rfl) ?_
  refine va_get (D := D) (ci := 5) (v := .ref xl) (C := "KindredBooks$Book") (T := T_zk5) (N := 9) hx hb hw in_zk5 hown hK hP 0 rfl rfl 1 (by decide) (hw _ mw_269) (fun _ h9 => h9) rfl dX1_learnFrom_9 ?_
  refine va_getN (D := D) (ci := 2) (v := .int 0) (C := "KindredBooks$Ledger") (T := T_zk2) (N := 4) hx hb hw in_zk2 hown hK hP 1 rfl rfl 3 (by decide) (hn _ mn_169) (fun _ h9 => h9) rfl dX1_learnFrom_12 ?_
  refine lv_icmp_ge (tgt := 52) hx hb dX1_learnFrom_15 (by decide) (fun _ => ?_) (fun zc => absurd (by decide) zc)
  refine lv_aload_n hx hb dX1_learnFrom_52 rfl (lv_at hl 2 rfl) ?_
  refine va_get (D := D) (ci := 5) (v := .int 0) (C := "KindredBooks$Book") (T := T_zk5) (N := 9) hx hb hw in_zk5 hown hK hP 0 rfl rfl 6 (by decide) (hw _ mw_275) (fun _ h9 => h9) rfl dX1_learnFrom_53 ?_
  refine lv_iload_n hx hb dX1_learnFrom_56 rfl (lv_at hl 1 rfl) ?_
  refine lv_icmp_le (tgt := 64) hx hb dX1_learnFrom_57 (by decide) (fun _ => ?_) (fun zc => absurd (by decide) zc)
  refine lv_aload_n hx hb dX1_learnFrom_64 rfl (lv_at hl 2 rfl) ?_
  refine va_get (D := D) (ci := 5) (v := .int 0) (C := "KindredBooks$Book") (T := T_zk5) (N := 9) hx hb hw in_zk5 hown hK hP 0 rfl rfl 6 (by decide) (hw _ mw_275) (fun _ h9 => h9) rfl dX1_learnFrom_65 ?_
  refine lv_iload_n hx hb dX1_learnFrom_68 rfl (lv_at hl 1 rfl) ?_
  refine lv_isub hx hb dX1_learnFrom_69 ?_
  refine lv_topi (fun v_1 ev_1 => ?_)
  obtain rfl : v_1 = 0 := ev_1.trans (by decide)
  have hP9 := hP.sub (ws' := [(bk, .inr (5, [.int hd, .ref xl, .ref b1, .ref b2, .ref b3, .ref b4, .int 0, .int 0, .int 0])), (xl, .inr (2, [.ref bl, .ref no, .ref ro, .int 0]))]) [0, 1] rfl
  have hD9 := hD.sub (ws' := [(bk, .inr (5, [.int hd, .ref xl, .ref b1, .ref b2, .ref b3, .ref b4, .int 0, .int 0, .int 0])), (xl, .inr (2, [.ref bl, .ref no, .ref ro, .int 0]))]) [0, 1] (by decide) rfl
  exact W.iret (v := 0) hx hb hr (fun t ht hW => ⟨⟨0, (), rfl, rfl, by rw [ht]; exact hP9, hD9⟩, hS.F ht⟩) hS.2.2 dX1_learnFrom_70
set_option maxHeartbeats 4000000 in
set_option maxRecDepth 100000 in
/-- knowsTheSame with an empty ledger -/
theorem c_knowsTheSame0 (l : Launch) (D : va_G) (dA : Nat → ClassId) (dZ : Nat → Nat) (sz : Nat) (bk : Nat) (xl : Nat) (o9 : Nat) (b1 : Nat) (b2 : Nat) (b3 : Nat) (b4 : Nat) (hd : Int32) (bl : Nat) (no : Nat) (ro : Nat) : Met l yX1_knowsTheSame (wz yX1_knowsTheSame cX1_knowsTheSame 3 (some .boolean)) ({ frames := 0, cells := 0, slots := 0, locals := 0 } : Room) (va_Pc [.ref bk, .ref o9] (zP D dA dZ [(bk, .inr (5, [.int hd, .ref xl, .ref b1, .ref b2, .ref b3, .ref b4, .int 0, .int 0, .int 0])), (xl, .inr (2, [.ref bl, .ref no, .ref ro, .int 0]))] sz)) (va_Qi (fun (r : Int32) (_ : Unit) => r = 1) (fun _ => zB D (va_A [(bk, .inr (5, [.int hd, .ref xl, .ref b1, .ref b2, .ref b3, .ref b4, .int 0, .int 0, .int 0])), (xl, .inr (2, [.ref bl, .ref no, .ref ro, .int 0]))] sz) [(bk, .inr (5, [.int hd, .ref xl, .ref b1, .ref b2, .ref b3, .ref b4, .int 0, .int 0, .int 0])), (xl, .inr (2, [.ref bl, .ref no, .ref ro, .int 0]))]) (va_A [(bk, .inr (5, [.int hd, .ref xl, .ref b1, .ref b2, .ref b3, .ref b4, .int 0, .int 0, .int 0])), (xl, .inr (2, [.ref bl, .ref no, .ref ro, .int 0]))] sz)) 0 0 (va_A [(bk, .inr (5, [.int hd, .ref xl, .ref b1, .ref b2, .ref b3, .ref b4, .int 0, .int 0, .int 0])), (xl, .inr (2, [.ref bl, .ref no, .ref ro, .int 0]))] sz) := by
  refine Met.ofW (cc := cX1_knowsTheSame) (maxL := 3) (ret := (some .boolean)) (by decide) rfl ?_
  intro p e s m args below meth c s₁ B hml hv
  obtain ⟨rfl, hsz, hP, hK, hD0, hT, hE⟩ := hv
  have hx := B.exec
  have hb := B.bytes
  have hr := B.returns
  have hw := wz_hw (atoms_spec (ws := wz yX1_knowsTheSame cX1_knowsTheSame 3 (some .boolean)) B.pre)
  have hown : s.vm.findClass "KindredBooks$Book" = some m.cls := findClass_of_methodNamed B.named
  have hlocks := B.notSynchronized
  have hn := hT.1.use (args := ([.ref bk, .ref o9] : List Value).toArray)
  subst hsz
  have hD := hD0.self (sz := s.heap.size)
  generalize hAe : va_A [(bk, .inr (5, [.int hd, .ref xl, .ref b1, .ref b2, .ref b3, .ref b4, .int 0, .int 0, .int 0])), (xl, .inr (2, [.ref bl, .ref no, .ref ro, .int 0]))] s.heap.size = A at hD hE ⊢
  have hA : ∀ q : Nat, s.heap.size ≤ q → A q := fun q h => by rw [← hAe]; exact Or.inr h
  have hS : va_S A s.heap s.heap [] := va_S.rf
  replace hP : va_P D zcl [(bk, .inr (5, [.int hd, .ref xl, .ref b1, .ref b2, .ref b3, .ref b4, .int 0, .int 0, .int 0])), (xl, .inr (2, [.ref bl, .ref no, .ref ro, .int 0]))] s.heap := hP
  have hl := lv_entry ([.ref bk, .ref o9]) (n := 3) (Nat.le_of_ble_eq_true rfl)
  rw [lg_entry_eq]
  generalize (lg_sl ([.ref bk, .ref o9]) ++ List.replicate (3 - (lg_sl ([.ref bk, .ref o9])).length) Slot.unset).toArray = ls at hl ⊢
  replace hl : lv_has ls 3 [(0, .ref bk), (1, .ref o9)] := hl
  refine lv_iconst (v := 0) hx hb dX1_knowsTheSame_0 (by decide) ?_
  refine lv_istore_n (lv' := [(2, .int 0), (0, .ref bk), (1, .ref o9)]) hx hb dX1_knowsTheSame_1 rfl hl (by decide) rfl (fun ls hl => ?_)
  refine lv_iload_n hx hb dX1_knowsTheSame_2 rfl (lv_at hl 0 rfl) ?_
  refine lv_aload_n hx hb dX1_knowsTheSame_3 rfl (lv_at hl 1 rfl) ?_
  refine va_get (D := D) (ci := 5) (v := .ref xl) (C := "KindredBooks$Book") (T := T_zk5) (N := 9) hx hb hw in_zk5 hown hK hP 0 rfl rfl 1 (by decide) (hw _ mw_269) (fun _ h9 => h9) rfl dX1_knowsTheSame_4 ?_
  refine va_getN (D := D) (ci := 2) (v := .int 0) (C := "KindredBooks$Ledger") (T := T_zk2) (N := 4) hx hb hw in_zk2 hown hK hP 1 rfl rfl 3 (by decide) (hn _ mn_169) (fun _ h9 => h9) rfl dX1_knowsTheSame_7 ?_
  refine lv_icmp_ge (tgt := 34) hx hb dX1_knowsTheSame_10 (by decide) (fun _ => ?_) (fun zc => absurd (by decide) zc)
  refine lv_iconst (v := 1) hx hb dX1_knowsTheSame_34 (by decide) ?_
  have hP9 := hP.sub (ws' := [(bk, .inr (5, [.int hd, .ref xl, .ref b1, .ref b2, .ref b3, .ref b4, .int 0, .int 0, .int 0])), (xl, .inr (2, [.ref bl, .ref no, .ref ro, .int 0]))]) [0, 1] rfl
  have hD9 := hD.sub (ws' := [(bk, .inr (5, [.int hd, .ref xl, .ref b1, .ref b2, .ref b3, .ref b4, .int 0, .int 0, .int 0])), (xl, .inr (2, [.ref bl, .ref no, .ref ro, .int 0]))]) [0, 1] (by decide) rfl
  exact W.zret (v := 1) hx hb hr rfl (fun t ht hW => ⟨⟨1, (), rfl, rfl, by rw [ht]; exact hP9, hD9⟩, hS.F ht⟩) hS.2.2 dX1_knowsTheSame_35
set_option maxHeartbeats 4000000 in
set_option maxRecDepth 100000 in
/-- hear on a fresh object: ok -/
theorem c_hear_ok (l : Launch) (D : va_G) (dA : Nat → ClassId) (dZ : Nat → Nat) (sz : Nat) (ax : Nat) (xt : Nat) (xp : Nat) (xs : Nat) (xl : Nat) (xb : Nat) (xk : Nat) (xm : Nat) (xq : Nat) (xg : Nat) (xf : Nat) (xe : Nat) (i : Nat) (fb : Nat → Option Nat) (bk : Nat) (b1 : Nat) (b2 : Nat) (b3 : Nat) (b4 : Nat) (hd : Int32) (bl : Nat) (no : Nat) (ro : Nat) (j : Nat) (bj : Nat) (hi : i < 3) (hf : fb i = some bk) (hj : j < 3) (hg : fb j = some bj) : Met l yX11_hear (wz yX11_hear cX11_hear 4 (some .int)) ({ frames := 14, cells := 0, slots := 0, locals := 400 } : Room) (va_Pc [.ref ax, .int (nI i), .int (nI j)] (zP D dA dZ [(ax, .inr (0, [.ref xt, .ref xp, .ref xs, .ref xl, .ref xb, .ref xk, .ref xm, .ref xq, .ref xg, .ref xf, .ref xe, .int 49])), (xb, .inl (dA 6, 3, .inr (.inr (.inr (.inr fb))))), (bk, .inr (5, [.int hd, .ref xl, .ref b1, .ref b2, .ref b3, .ref b4, .int 0, .int 0, .int 0])), (b3, .inl (dA 1, 250, .inl (fun _ => 0))), (xl, .inr (2, [.ref bl, .ref no, .ref ro, .int 0]))] sz)) (va_Qi (fun (r : Int32) (_ : Unit) => r = 0) (fun _ => zB D (va_A [(ax, .inr (0, [.ref xt, .ref xp, .ref xs, .ref xl, .ref xb, .ref xk, .ref xm, .ref xq, .ref xg, .ref xf, .ref xe, .int 49])), (xb, .inl (dA 6, 3, .inr (.inr (.inr (.inr fb))))), (bk, .inr (5, [.int hd, .ref xl, .ref b1, .ref b2, .ref b3, .ref b4, .int 0, .int 0, .int 0])), (b3, .inl (dA 1, 250, .inl (fun _ => 0))), (xl, .inr (2, [.ref bl, .ref no, .ref ro, .int 0]))] sz) [(ax, .inr (0, [.ref xt, .ref xp, .ref xs, .ref xl, .ref xb, .ref xk, .ref xm, .ref xq, .ref xg, .ref xf, .ref xe, .int 49])), (xb, .inl (dA 6, 3, .inr (.inr (.inr (.inr fb))))), (bk, .inr (5, [.int hd, .ref xl, .ref b1, .ref b2, .ref b3, .ref b4, .int 0, .int 0, .int 0])), (b3, .inl (dA 1, 250, .inl (fun _ => 0))), (xl, .inr (2, [.ref bl, .ref no, .ref ro, .int 0]))]) (va_A [(ax, .inr (0, [.ref xt, .ref xp, .ref xs, .ref xl, .ref xb, .ref xk, .ref xm, .ref xq, .ref xg, .ref xf, .ref xe, .int 49])), (xb, .inl (dA 6, 3, .inr (.inr (.inr (.inr fb))))), (bk, .inr (5, [.int hd, .ref xl, .ref b1, .ref b2, .ref b3, .ref b4, .int 0, .int 0, .int 0])), (b3, .inl (dA 1, 250, .inl (fun _ => 0))), (xl, .inr (2, [.ref bl, .ref no, .ref ro, .int 0]))] sz)) 0 0 (va_A [(ax, .inr (0, [.ref xt, .ref xp, .ref xs, .ref xl, .ref xb, .ref xk, .ref xm, .ref xq, .ref xg, .ref xf, .ref xe, .int 49])), (xb, .inl (dA 6, 3, .inr (.inr (.inr (.inr fb))))), (bk, .inr (5, [.int hd, .ref xl, .ref b1, .ref b2, .ref b3, .ref b4, .int 0, .int 0, .int 0])), (b3, .inl (dA 1, 250, .inl (fun _ => 0))), (xl, .inr (2, [.ref bl, .ref no, .ref ro, .int 0]))] sz) := by
  refine Met.ofW (cc := cX11_hear) (maxL := 4) (ret := (some .int)) (by decide) rfl ?_
  intro p e s m args below meth c s₁ B hml hv
  obtain ⟨rfl, hsz, hP, hK, hD0, hT, hE⟩ := hv
  have hx := B.exec
  have hb := B.bytes
  have hr := B.returns
  have hw := wz_hw (atoms_spec (ws := wz yX11_hear cX11_hear 4 (some .int)) B.pre)
  have hown : s.vm.findClass "KindredBooks" = some m.cls := findClass_of_methodNamed B.named
  have hlocks := B.notSynchronized
  have hn := hT.1.use (args := ([.ref ax, .int (nI i), .int (nI j)] : List Value).toArray)
  subst hsz
  have hD := hD0.self (sz := s.heap.size)
  generalize hAe : va_A [(ax, .inr (0, [.ref xt, .ref xp, .ref xs, .ref xl, .ref xb, .ref xk, .ref xm, .ref xq, .ref xg, .ref xf, .ref xe, .int 49])), (xb, .inl (dA 6, 3, .inr (.inr (.inr (.inr fb))))), (bk, .inr (5, [.int hd, .ref xl, .ref b1, .ref b2, .ref b3, .ref b4, .int 0, .int 0, .int 0])), (b3, .inl (dA 1, 250, .inl (fun _ => 0))), (xl, .inr (2, [.ref bl, .ref no, .ref ro, .int 0]))] s.heap.size = A at hD hE ⊢
  have hA : ∀ q : Nat, s.heap.size ≤ q → A q := fun q h => by rw [← hAe]; exact Or.inr h
  have hS : va_S A s.heap s.heap [] := va_S.rf
  replace hP : va_P D zcl [(ax, .inr (0, [.ref xt, .ref xp, .ref xs, .ref xl, .ref xb, .ref xk, .ref xm, .ref xq, .ref xg, .ref xf, .ref xe, .int 49])), (xb, .inl (dA 6, 3, .inr (.inr (.inr (.inr fb))))), (bk, .inr (5, [.int hd, .ref xl, .ref b1, .ref b2, .ref b3, .ref b4, .int 0, .int 0, .int 0])), (b3, .inl (dA 1, 250, .inl (fun _ => 0))), (xl, .inr (2, [.ref bl, .ref no, .ref ro, .int 0]))] s.heap := hP
  have hl := lv_entry ([.ref ax, .int (nI i), .int (nI j)]) (n := 4) (Nat.le_of_ble_eq_true rfl)
  rw [lg_entry_eq]
  generalize (lg_sl ([.ref ax, .int (nI i), .int (nI j)]) ++ List.replicate (4 - (lg_sl ([.ref ax, .int (nI i), .int (nI j)])).length) Slot.unset).toArray = ls at hl ⊢
  replace hl : lv_has ls 4 [(0, .ref ax), (1, .int (nI i)), (2, .int (nI j))] := hl
  refine lv_aload_n hx hb dX11_hear_0 rfl (lv_at hl 0 rfl) ?_
  refine lv_iload_n hx hb dX11_hear_1 rfl (lv_at hl 1 rfl) ?_
  have hPc := hP.sub (ws' := [(ax, .inr (0, [.ref xt, .ref xp, .ref xs, .ref xl, .ref xb, .ref xk, .ref xm, .ref xq, .ref xg, .ref xf, .ref xe, .int 49])), (xb, .inl (dA 6, 3, .inr (.inr (.inr (.inr fb)))))]) [0, 1] rfl
  have hDc := hD.sub (ws' := [(ax, .inr (0, [.ref xt, .ref xp, .ref xs, .ref xl, .ref xb, .ref xk, .ref xm, .ref xq, .ref xg, .ref xf, .ref xe, .int 49])), (xb, .inl (dA 6, 3, .inr (.inr (.inr (.inr fb)))))]) [0, 1] (by decide) rfl
  have hFc := va_free (wc := [(ax, .inr (0, [.ref xt, .ref xp, .ref xs, .ref xl, .ref xb, .ref xk, .ref xm, .ref xq, .ref xg, .ref xf, .ref xe, .int 49])), (xb, .inl (dA 6, 3, .inr (.inr (.inr (.inr fb)))))]) hD hS hA [0, 1] rfl
  refine va_callq (va_runV (As := [.int (nI i)]) (rest := []) ⟨hx, hb, hml, hown, hw⟩ (c_bookOf l D dA dZ _ ax xt xp xs xl xb xk xm xq xg xf xe i fb bk hi hf) (z_cwV 1 hw mw_603 mw_605 ms_3 mw_1 mw_606 rfl rfl (by decide +kernel) ⟨Nat.le_of_ble_eq_true rfl, Nat.le_of_ble_eq_true rfl⟩) (zPreV hPc hK hDc hT hE hS hFc (va_recv hK hP (ci := 0) (q0 := 0) rfl rfl)) rfl rfl hl.1 rfl (lv_room (Nat.le_of_ble_eq_true rfl)) dX11_hear_2 ⟨Nat.le_of_ble_eq_true rfl, Nat.le_of_ble_eq_true rfl⟩) hS (fun q _ h => hFc q h) hFc (fun r_1 u t H1 locs ht hvm hpo hB hz1 hk1 hS => ?_)
  obtain ⟨hP1, hD1⟩ := hB
  rw [ht] at hP1
  obtain ⟨hP, hD⟩ := va_join (wr := [(bk, .inr (5, [.int hd, .ref xl, .ref b1, .ref b2, .ref b3, .ref b4, .int 0, .int 0, .int 0])), (b3, .inl (dA 1, 250, .inl (fun _ => 0))), (xl, .inr (2, [.ref bl, .ref no, .ref ro, .int 0]))]) (w1 := [(ax, .inr (0, [.ref xt, .ref xp, .ref xs, .ref xl, .ref xb, .ref xk, .ref xm, .ref xq, .ref xg, .ref xf, .ref xe, .int 49])), (xb, .inl (dA 6, 3, .inr (.inr (.inr (.inr fb)))))]) hP hD [0, 1] [2, 3, 4] rfl rfl (by decide) (by decide) hk1 hFc hP1 hD1
  generalize H1 = H at hP hS ⊢
  have hP : va_P D zcl [(bk, .inr (5, [.int hd, .ref xl, .ref b1, .ref b2, .ref b3, .ref b4, .int 0, .int 0, .int 0])), (b3, .inl (dA 1, 250, .inl (fun _ => 0))), (xl, .inr (2, [.ref bl, .ref no, .ref ro, .int 0])), (ax, .inr (0, [.ref xt, .ref xp, .ref xs, .ref xl, .ref xb, .ref xk, .ref xm, .ref xq, .ref xg, .ref xf, .ref xe, .int 49])), (xb, .inl (dA 6, 3, .inr (.inr (.inr (.inr fb)))))] H := hP
  have hD : va_D A [(bk, .inr (5, [.int hd, .ref xl, .ref b1, .ref b2, .ref b3, .ref b4, .int 0, .int 0, .int 0])), (b3, .inl (dA 1, 250, .inl (fun _ => 0))), (xl, .inr (2, [.ref bl, .ref no, .ref ro, .int 0])), (ax, .inr (0, [.ref xt, .ref xp, .ref xs, .ref xl, .ref xb, .ref xk, .ref xm, .ref xq, .ref xg, .ref xf, .ref xe, .int 49])), (xb, .inl (dA 6, 3, .inr (.inr (.inr (.inr fb)))))] := hD
  obtain rfl : r_1 = (some bk) := hpo
  refine lv_astore_n (lv' := [(3, .ref bk), (0, .ref ax), (1, .int (nI i)), (2, .int (nI j))]) hx hb dX11_hear_5 rfl hl (by decide) rfl (fun ls hl => ?_)
  refine lv_aload_n hx hb dX11_hear_6 rfl (lv_at hl 0 rfl) ?_
  refine lv_aload_n hx hb dX11_hear_7 rfl (lv_at hl 1 rfl) ?_
  refine lv_iload_n hx hb dX11_hear_8 rfl (lv_at hl 3 rfl) ?_
  have hPc := hP.sub (ws' := [(ax, .inr (0, [.ref xt, .ref xp, .ref xs, .ref xl, .ref xb, .ref xk, .ref xm, .ref xq, .ref xg, .ref xf, .ref xe, .int 49])), (xb, .inl (dA 6, 3, .inr (.inr (.inr (.inr fb)))))]) [3, 4] rfl
  have hDc := hD.sub (ws' := [(ax, .inr (0, [.ref xt, .ref xp, .ref xs, .ref xl, .ref xb, .ref xk, .ref xm, .ref xq, .ref xg, .ref xf, .ref xe, .int 49])), (xb, .inl (dA 6, 3, .inr (.inr (.inr (.inr fb)))))]) [3, 4] (by decide) rfl
  have hFc := va_free (wc := [(ax, .inr (0, [.ref xt, .ref xp, .ref xs, .ref xl, .ref xb, .ref xk, .ref xm, .ref xq, .ref xg, .ref xf, .ref xe, .int 49])), (xb, .inl (dA 6, 3, .inr (.inr (.inr (.inr fb)))))]) hD hS hA [3, 4] rfl
  refine va_callq (va_runV (As := [.int (nI j)]) (rest := [.ref bk]) ⟨hx, hb, hml, hown, hw⟩ (c_bookOf l D dA dZ _ ax xt xp xs xl xb xk xm xq xg xf xe j fb bj hj hg) (z_cwV 1 hw mw_603 mw_605 ms_3 mw_1 mw_606 rfl rfl (by decide +kernel) ⟨Nat.le_of_ble_eq_true rfl, Nat.le_of_ble_eq_true rfl⟩) (zPreV hPc hK hDc hT hE hS hFc (va_recv hK hP (ci := 0) (q0 := 3) rfl rfl)) rfl rfl hl.1 rfl (lv_room (Nat.le_of_ble_eq_true rfl)) dX11_hear_9 ⟨Nat.le_of_ble_eq_true rfl, Nat.le_of_ble_eq_true rfl⟩) hS (fun q _ h => hFc q h) hFc (fun r_2 u t H1 locs ht hvm hpo hB hz1 hk1 hS => ?_)
  obtain ⟨hP1, hD1⟩ := hB
  rw [ht] at hP1
  obtain ⟨hP, hD⟩ := va_join (wr := [(bk, .inr (5, [.int hd, .ref xl, .ref b1, .ref b2, .ref b3, .ref b4, .int 0, .int 0, .int 0])), (b3, .inl (dA 1, 250, .inl (fun _ => 0))), (xl, .inr (2, [.ref bl, .ref no, .ref ro, .int 0]))]) (w1 := [(ax, .inr (0, [.ref xt, .ref xp, .ref xs, .ref xl, .ref xb, .ref xk, .ref xm, .ref xq, .ref xg, .ref xf, .ref xe, .int 49])), (xb, .inl (dA 6, 3, .inr (.inr (.inr (.inr fb)))))]) hP hD [3, 4] [0, 1, 2] rfl rfl (by decide) (by decide) hk1 hFc hP1 hD1
  generalize H1 = H at hP hS ⊢
  have hP : va_P D zcl [(bk, .inr (5, [.int hd, .ref xl, .ref b1, .ref b2, .ref b3, .ref b4, .int 0, .int 0, .int 0])), (b3, .inl (dA 1, 250, .inl (fun _ => 0))), (xl, .inr (2, [.ref bl, .ref no, .ref ro, .int 0])), (ax, .inr (0, [.ref xt, .ref xp, .ref xs, .ref xl, .ref xb, .ref xk, .ref xm, .ref xq, .ref xg, .ref xf, .ref xe, .int 49])), (xb, .inl (dA 6, 3, .inr (.inr (.inr (.inr fb)))))] H := hP
  have hD : va_D A [(bk, .inr (5, [.int hd, .ref xl, .ref b1, .ref b2, .ref b3, .ref b4, .int 0, .int 0, .int 0])), (b3, .inl (dA 1, 250, .inl (fun _ => 0))), (xl, .inr (2, [.ref bl, .ref no, .ref ro, .int 0])), (ax, .inr (0, [.ref xt, .ref xp, .ref xs, .ref xl, .ref xb, .ref xk, .ref xm, .ref xq, .ref xg, .ref xf, .ref xe, .int 49])), (xb, .inl (dA 6, 3, .inr (.inr (.inr (.inr fb)))))] := hD
  obtain rfl : r_2 = (some bj) := hpo
  have hPc := hP.sub (ws' := [(bk, .inr (5, [.int hd, .ref xl, .ref b1, .ref b2, .ref b3, .ref b4, .int 0, .int 0, .int 0])), (xl, .inr (2, [.ref bl, .ref no, .ref ro, .int 0]))]) [0, 2] rfl
  have hDc := hD.sub (ws' := [(bk, .inr (5, [.int hd, .ref xl, .ref b1, .ref b2, .ref b3, .ref b4, .int 0, .int 0, .int 0])), (xl, .inr (2, [.ref bl, .ref no, .ref ro, .int 0]))]) [0, 2] (by decide) rfl
  have hFc := va_free (wc := [(bk, .inr (5, [.int hd, .ref xl, .ref b1, .ref b2, .ref b3, .ref b4, .int 0, .int 0, .int 0])), (xl, .inr (2, [.ref bl, .ref no, .ref ro, .int 0]))]) hD hS hA [0, 2] rfl
  refine va_calli (va_runV (As := [.ref bj]) (rest := []) ⟨hx, hb, hml, hown, hw⟩ (c_learnFrom0 l D dA dZ _ bk xl bj b1 b2 b3 b4 hd bl no ro) (z_cwV 1 hw mw_818 mw_819 mw_820 mw_9 mw_821 rfl rfl (by decide +kernel) ⟨Nat.le_of_ble_eq_true rfl, Nat.le_of_ble_eq_true rfl⟩) (zPreV hPc hK hDc hT hE hS hFc (va_recv hK hP (ci := 5) (q0 := 0) rfl rfl)) rfl rfl hl.1 rfl (lv_room (Nat.le_of_ble_eq_true rfl)) dX11_hear_12 ⟨Nat.le_of_ble_eq_true rfl, Nat.le_of_ble_eq_true rfl⟩) hS (fun q _ h => hFc q h) hFc (fun r_3 u t H1 locs ht hvm hpo hB hz1 hk1 hS => ?_)
  obtain ⟨hP1, hD1⟩ := hB
  rw [ht] at hP1
  obtain ⟨hP, hD⟩ := va_join (wr := [(b3, .inl (dA 1, 250, .inl (fun _ => 0))), (ax, .inr (0, [.ref xt, .ref xp, .ref xs, .ref xl, .ref xb, .ref xk, .ref xm, .ref xq, .ref xg, .ref xf, .ref xe, .int 49])), (xb, .inl (dA 6, 3, .inr (.inr (.inr (.inr fb)))))]) (w1 := [(bk, .inr (5, [.int hd, .ref xl, .ref b1, .ref b2, .ref b3, .ref b4, .int 0, .int 0, .int 0])), (xl, .inr (2, [.ref bl, .ref no, .ref ro, .int 0]))]) hP hD [0, 2] [1, 3, 4] rfl rfl (by decide) (by decide) hk1 hFc hP1 hD1
  generalize H1 = H at hP hS ⊢
  have hP : va_P D zcl [(b3, .inl (dA 1, 250, .inl (fun _ => 0))), (ax, .inr (0, [.ref xt, .ref xp, .ref xs, .ref xl, .ref xb, .ref xk, .ref xm, .ref xq, .ref xg, .ref xf, .ref xe, .int 49])), (xb, .inl (dA 6, 3, .inr (.inr (.inr (.inr fb))))), (bk, .inr (5, [.int hd, .ref xl, .ref b1, .ref b2, .ref b3, .ref b4, .int 0, .int 0, .int 0])), (xl, .inr (2, [.ref bl, .ref no, .ref ro, .int 0]))] H := hP
  have hD : va_D A [(b3, .inl (dA 1, 250, .inl (fun _ => 0))), (ax, .inr (0, [.ref xt, .ref xp, .ref xs, .ref xl, .ref xb, .ref xk, .ref xm, .ref xq, .ref xg, .ref xf, .ref xe, .int 49])), (xb, .inl (dA 6, 3, .inr (.inr (.inr (.inr fb))))), (bk, .inr (5, [.int hd, .ref xl, .ref b1, .ref b2, .ref b3, .ref b4, .int 0, .int 0, .int 0])), (xl, .inr (2, [.ref bl, .ref no, .ref ro, .int 0]))] := hD
  obtain rfl : r_3 = 0 := hpo
  have hP9 := hP.sub (ws' := [(ax, .inr (0, [.ref xt, .ref xp, .ref xs, .ref xl, .ref xb, .ref xk, .ref xm, .ref xq, .ref xg, .ref xf, .ref xe, .int 49])), (xb, .inl (dA 6, 3, .inr (.inr (.inr (.inr fb))))), (bk, .inr (5, [.int hd, .ref xl, .ref b1, .ref b2, .ref b3, .ref b4, .int 0, .int 0, .int 0])), (b3, .inl (dA 1, 250, .inl (fun _ => 0))), (xl, .inr (2, [.ref bl, .ref no, .ref ro, .int 0]))]) [1, 2, 3, 0, 4] rfl
  have hD9 := hD.sub (ws' := [(ax, .inr (0, [.ref xt, .ref xp, .ref xs, .ref xl, .ref xb, .ref xk, .ref xm, .ref xq, .ref xg, .ref xf, .ref xe, .int 49])), (xb, .inl (dA 6, 3, .inr (.inr (.inr (.inr fb))))), (bk, .inr (5, [.int hd, .ref xl, .ref b1, .ref b2, .ref b3, .ref b4, .int 0, .int 0, .int 0])), (b3, .inl (dA 1, 250, .inl (fun _ => 0))), (xl, .inr (2, [.ref bl, .ref no, .ref ro, .int 0]))]) [1, 2, 3, 0, 4] (by decide) rfl
  exact W.iret (v := 0) hx hb hr (fun t ht hW => ⟨⟨0, (), rfl, rfl, by rw [ht]; exact hP9, hD9⟩, hS.F ht⟩) hS.2.2 dX11_hear_15
set_option maxHeartbeats 4000000 in
set_option maxRecDepth 100000 in
/-- hear on a fresh object: bad2 -/
theorem c_hear_bad2 (l : Launch) (D : va_G) (dA : Nat → ClassId) (dZ : Nat → Nat) (sz : Nat) (hfl : l.stackTraces = false) (ax : Nat) (xt : Nat) (xp : Nat) (xs : Nat) (xl : Nat) (xb : Nat) (xk : Nat) (xm : Nat) (xq : Nat) (xg : Nat) (xf : Nat) (xe : Nat) (i : Nat) (fb : Nat → Option Nat) (bk : Nat) (b1 : Nat) (b2 : Nat) (b3 : Nat) (b4 : Nat) (hd : Int32) (y0 : Int32) (hi : i < 3) (hf : fb i = some bk) (hz : zbad y0) : vx_Met l yX11_hear (wz yX11_hear cX11_hear 4 (some .int)) ({ frames := 14, cells := 1, slots := 6, locals := 400 } : Room) (va_Pc [.ref ax, .int (nI i), .int y0] (zP D dA dZ [(ax, .inr (0, [.ref xt, .ref xp, .ref xs, .ref xl, .ref xb, .ref xk, .ref xm, .ref xq, .ref xg, .ref xf, .ref xe, .int 49])), (xb, .inl (dA 6, 3, .inr (.inr (.inr (.inr fb)))))] sz)) zNo (zX "java/lang/IndexOutOfBoundsException" (va_A [(ax, .inr (0, [.ref xt, .ref xp, .ref xs, .ref xl, .ref xb, .ref xk, .ref xm, .ref xq, .ref xg, .ref xf, .ref xe, .int 49])), (xb, .inl (dA 6, 3, .inr (.inr (.inr (.inr fb)))))] sz)) 1 6 (va_A [(ax, .inr (0, [.ref xt, .ref xp, .ref xs, .ref xl, .ref xb, .ref xk, .ref xm, .ref xq, .ref xg, .ref xf, .ref xe, .int 49])), (xb, .inl (dA 6, 3, .inr (.inr (.inr (.inr fb)))))] sz) := by
  refine vx_ofW (cc := cX11_hear) (maxL := 4) (ret := (some .int)) (by decide) rfl ?_
  intro p e s m args below meth c s₁ B hml hno hv
  obtain ⟨rfl, hsz, hP, hK, hD0, hT, hE⟩ := hv
  have hx := B.exec
  have hb := B.bytes
  have hr := B.returns
  have hw := wz_hw (atoms_spec (ws := wz yX11_hear cX11_hear 4 (some .int)) B.pre)
  have hown : s.vm.findClass "KindredBooks" = some m.cls := findClass_of_methodNamed B.named
  have hlocks := B.notSynchronized
  have hn := hT.1.use (args := ([.ref ax, .int (nI i), .int y0] : List Value).toArray)
  subst hsz
  have hD := hD0.self (sz := s.heap.size)
  generalize hAe : va_A [(ax, .inr (0, [.ref xt, .ref xp, .ref xs, .ref xl, .ref xb, .ref xk, .ref xm, .ref xq, .ref xg, .ref xf, .ref xe, .int 49])), (xb, .inl (dA 6, 3, .inr (.inr (.inr (.inr fb)))))] s.heap.size = A at hD hE ⊢
  have hA : ∀ q : Nat, s.heap.size ≤ q → A q := fun q h => by rw [← hAe]; exact Or.inr h
  have hS : va_S A s.heap s.heap [] := va_S.rf
  replace hP : va_P D zcl [(ax, .inr (0, [.ref xt, .ref xp, .ref xs, .ref xl, .ref xb, .ref xk, .ref xm, .ref xq, .ref xg, .ref xf, .ref xe, .int 49])), (xb, .inl (dA 6, 3, .inr (.inr (.inr (.inr fb)))))] s.heap := hP
  have hl := lv_entry ([.ref ax, .int (nI i), .int y0]) (n := 4) (Nat.le_of_ble_eq_true rfl)
  rw [lg_entry_eq]
  generalize (lg_sl ([.ref ax, .int (nI i), .int y0]) ++ List.replicate (4 - (lg_sl ([.ref ax, .int (nI i), .int y0])).length) Slot.unset).toArray = ls at hl ⊢
  replace hl : lv_has ls 4 [(0, .ref ax), (1, .int (nI i)), (2, .int y0)] := hl
  refine lv_aload_n hx hb dX11_hear_0 rfl (lv_at hl 0 rfl) ?_
  refine lv_iload_n hx hb dX11_hear_1 rfl (lv_at hl 1 rfl) ?_
  have hPc := hP.sub (ws' := [(ax, .inr (0, [.ref xt, .ref xp, .ref xs, .ref xl, .ref xb, .ref xk, .ref xm, .ref xq, .ref xg, .ref xf, .ref xe, .int 49])), (xb, .inl (dA 6, 3, .inr (.inr (.inr (.inr fb)))))]) [0, 1] rfl
  have hDc := hD.sub (ws' := [(ax, .inr (0, [.ref xt, .ref xp, .ref xs, .ref xl, .ref xb, .ref xk, .ref xm, .ref xq, .ref xg, .ref xf, .ref xe, .int 49])), (xb, .inl (dA 6, 3, .inr (.inr (.inr (.inr fb)))))]) [0, 1] (by decide) rfl
  have hFc := va_free (wc := [(ax, .inr (0, [.ref xt, .ref xp, .ref xs, .ref xl, .ref xb, .ref xk, .ref xm, .ref xq, .ref xg, .ref xf, .ref xe, .int 49])), (xb, .inl (dA 6, 3, .inr (.inr (.inr (.inr fb)))))]) hD hS hA [0, 1] rfl
  refine va_callq (va_runV (As := [.int (nI i)]) (rest := []) ⟨hx, hb, hml, hown, hw⟩ (c_bookOf l D dA dZ _ ax xt xp xs xl xb xk xm xq xg xf xe i fb bk hi hf) (z_cwV 1 hw mw_603 mw_605 ms_3 mw_1 mw_606 rfl rfl (by decide +kernel) ⟨Nat.le_of_ble_eq_true rfl, Nat.le_of_ble_eq_true rfl⟩) (zPreV hPc hK hDc hT hE hS hFc (va_recv hK hP (ci := 0) (q0 := 0) rfl rfl)) rfl rfl hl.1 rfl (lv_room (Nat.le_of_ble_eq_true rfl)) dX11_hear_2 ⟨Nat.le_of_ble_eq_true rfl, Nat.le_of_ble_eq_true rfl⟩) hS (fun q _ h => hFc q h) hFc (fun r_1 u t H1 locs ht hvm hpo hB hz1 hk1 hS => ?_)
  obtain ⟨hP1, hD1⟩ := hB
  rw [ht] at hP1
  obtain ⟨hP, hD⟩ := va_join (wr := []) (w1 := [(ax, .inr (0, [.ref xt, .ref xp, .ref xs, .ref xl, .ref xb, .ref xk, .ref xm, .ref xq, .ref xg, .ref xf, .ref xe, .int 49])), (xb, .inl (dA 6, 3, .inr (.inr (.inr (.inr fb)))))]) hP hD [0, 1] [] rfl rfl (by decide) (by decide) hk1 hFc hP1 hD1
  generalize H1 = H at hP hS ⊢
  have hP : va_P D zcl [(ax, .inr (0, [.ref xt, .ref xp, .ref xs, .ref xl, .ref xb, .ref xk, .ref xm, .ref xq, .ref xg, .ref xf, .ref xe, .int 49])), (xb, .inl (dA 6, 3, .inr (.inr (.inr (.inr fb)))))] H := hP
  have hD : va_D A [(ax, .inr (0, [.ref xt, .ref xp, .ref xs, .ref xl, .ref xb, .ref xk, .ref xm, .ref xq, .ref xg, .ref xf, .ref xe, .int 49])), (xb, .inl (dA 6, 3, .inr (.inr (.inr (.inr fb)))))] := hD
  obtain rfl : r_1 = (some bk) := hpo
  refine lv_astore_n (lv' := [(3, .ref bk), (0, .ref ax), (1, .int (nI i)), (2, .int y0)]) hx hb dX11_hear_5 rfl hl (by decide) rfl (fun ls hl => ?_)
  refine lv_aload_n hx hb dX11_hear_6 rfl (lv_at hl 0 rfl) ?_
  refine lv_aload_n hx hb dX11_hear_7 rfl (lv_at hl 1 rfl) ?_
  refine lv_iload_n hx hb dX11_hear_8 rfl (lv_at hl 3 rfl) ?_
  have hPc := hP.sub (ws' := []) [] rfl
  have hDc := hD.sub (ws' := []) [] (by decide) rfl
  have hFc := va_free (wc := []) hD hS hA [] rfl
  refine zx_call (E0 := "java/lang/IndexOutOfBoundsException") (vx_runV (As := [.int y0]) (rest := [.ref bk]) ⟨hx, hb, hml, hown, hw⟩ (c_bookOf_no l D dA dZ _ hfl ax y0 hz) (z_cwV 1 hw mw_603 mw_605 ms_3 mw_1 mw_606 rfl rfl (by decide +kernel) ⟨Nat.le_of_ble_eq_true rfl, Nat.le_of_ble_eq_true rfl⟩) (zPreV hPc hK hDc hT hE hS hFc (va_recv hK hP (ci := 0) (q0 := 0) rfl rfl)) rfl rfl hl.1 rfl (lv_room (Nat.le_of_ble_eq_true rfl)) dX11_hear_9 ⟨Nat.le_of_ble_eq_true rfl, Nat.le_of_ble_eq_true rfl⟩) hS (fun q _ h => hFc q h) hFc (fun ce q9 H1 locs hz1 hk1 hS hce hcv hcl => ?_)
  exact vx_out (fun x hx => (hno x hx).elim) hlocks hce hcv hcl (fun t ht ha => zX_at hS ht) hS.2.2 (Nat.le_of_ble_eq_true rfl) (Nat.le_of_ble_eq_true rfl)
set_option maxHeartbeats 4000000 in
set_option maxRecDepth 100000 in
/-- agree on a fresh object: ok -/
theorem c_agree_ok (l : Launch) (D : va_G) (dA : Nat → ClassId) (dZ : Nat → Nat) (sz : Nat) (ax : Nat) (xt : Nat) (xp : Nat) (xs : Nat) (xl : Nat) (xb : Nat) (xk : Nat) (xm : Nat) (xq : Nat) (xg : Nat) (xf : Nat) (xe : Nat) (i : Nat) (fb : Nat → Option Nat) (bk : Nat) (b1 : Nat) (b2 : Nat) (b3 : Nat) (b4 : Nat) (hd : Int32) (bl : Nat) (no : Nat) (ro : Nat) (j : Nat) (bj : Nat) (hi : i < 3) (hf : fb i = some bk) (hj : j < 3) (hg : fb j = some bj) : Met l yX11_agree (wz yX11_agree cX11_agree 4 (some .boolean)) ({ frames := 14, cells := 0, slots := 0, locals := 400 } : Room) (va_Pc [.ref ax, .int (nI i), .int (nI j)] (zP D dA dZ [(ax, .inr (0, [.ref xt, .ref xp, .ref xs, .ref xl, .ref xb, .ref xk, .ref xm, .ref xq, .ref xg, .ref xf, .ref xe, .int 49])), (xb, .inl (dA 6, 3, .inr (.inr (.inr (.inr fb))))), (bk, .inr (5, [.int hd, .ref xl, .ref b1, .ref b2, .ref b3, .ref b4, .int 0, .int 0, .int 0])), (b3, .inl (dA 1, 250, .inl (fun _ => 0))), (xl, .inr (2, [.ref bl, .ref no, .ref ro, .int 0]))] sz)) (va_Qi (fun (r : Int32) (_ : Unit) => r = 1) (fun _ => zB D (va_A [(ax, .inr (0, [.ref xt, .ref xp, .ref xs, .ref xl, .ref xb, .ref xk, .ref xm, .ref xq, .ref xg, .ref xf, .ref xe, .int 49])), (xb, .inl (dA 6, 3, .inr (.inr (.inr (.inr fb))))), (bk, .inr (5, [.int hd, .ref xl, .ref b1, .ref b2, .ref b3, .ref b4, .int 0, .int 0, .int 0])), (b3, .inl (dA 1, 250, .inl (fun _ => 0))), (xl, .inr (2, [.ref bl, .ref no, .ref ro, .int 0]))] sz) [(ax, .inr (0, [.ref xt, .ref xp, .ref xs, .ref xl, .ref xb, .ref xk, .ref xm, .ref xq, .ref xg, .ref xf, .ref xe, .int 49])), (xb, .inl (dA 6, 3, .inr (.inr (.inr (.inr fb))))), (bk, .inr (5, [.int hd, .ref xl, .ref b1, .ref b2, .ref b3, .ref b4, .int 0, .int 0, .int 0])), (b3, .inl (dA 1, 250, .inl (fun _ => 0))), (xl, .inr (2, [.ref bl, .ref no, .ref ro, .int 0]))]) (va_A [(ax, .inr (0, [.ref xt, .ref xp, .ref xs, .ref xl, .ref xb, .ref xk, .ref xm, .ref xq, .ref xg, .ref xf, .ref xe, .int 49])), (xb, .inl (dA 6, 3, .inr (.inr (.inr (.inr fb))))), (bk, .inr (5, [.int hd, .ref xl, .ref b1, .ref b2, .ref b3, .ref b4, .int 0, .int 0, .int 0])), (b3, .inl (dA 1, 250, .inl (fun _ => 0))), (xl, .inr (2, [.ref bl, .ref no, .ref ro, .int 0]))] sz)) 0 0 (va_A [(ax, .inr (0, [.ref xt, .ref xp, .ref xs, .ref xl, .ref xb, .ref xk, .ref xm, .ref xq, .ref xg, .ref xf, .ref xe, .int 49])), (xb, .inl (dA 6, 3, .inr (.inr (.inr (.inr fb))))), (bk, .inr (5, [.int hd, .ref xl, .ref b1, .ref b2, .ref b3, .ref b4, .int 0, .int 0, .int 0])), (b3, .inl (dA 1, 250, .inl (fun _ => 0))), (xl, .inr (2, [.ref bl, .ref no, .ref ro, .int 0]))] sz) := by
  refine Met.ofW (cc := cX11_agree) (maxL := 4) (ret := (some .boolean)) (by decide) rfl ?_
  intro p e s m args below meth c s₁ B hml hv
  obtain ⟨rfl, hsz, hP, hK, hD0, hT, hE⟩ := hv
  have hx := B.exec
  have hb := B.bytes
  have hr := B.returns
  have hw := wz_hw (atoms_spec (ws := wz yX11_agree cX11_agree 4 (some .boolean)) B.pre)
  have hown : s.vm.findClass "KindredBooks" = some m.cls := findClass_of_methodNamed B.named
  have hlocks := B.notSynchronized
  have hn := hT.1.use (args := ([.ref ax, .int (nI i), .int (nI j)] : List Value).toArray)
  subst hsz
  have hD := hD0.self (sz := s.heap.size)
  generalize hAe : va_A [(ax, .inr (0, [.ref xt, .ref xp, .ref xs, .ref xl, .ref xb, .ref xk, .ref xm, .ref xq, .ref xg, .ref xf, .ref xe, .int 49])), (xb, .inl (dA 6, 3, .inr (.inr (.inr (.inr fb))))), (bk, .inr (5, [.int hd, .ref xl, .ref b1, .ref b2, .ref b3, .ref b4, .int 0, .int 0, .int 0])), (b3, .inl (dA 1, 250, .inl (fun _ => 0))), (xl, .inr (2, [.ref bl, .ref no, .ref ro, .int 0]))] s.heap.size = A at hD hE ⊢
  have hA : ∀ q : Nat, s.heap.size ≤ q → A q := fun q h => by rw [← hAe]; exact Or.inr h
  have hS : va_S A s.heap s.heap [] := va_S.rf
  replace hP : va_P D zcl [(ax, .inr (0, [.ref xt, .ref xp, .ref xs, .ref xl, .ref xb, .ref xk, .ref xm, .ref xq, .ref xg, .ref xf, .ref xe, .int 49])), (xb, .inl (dA 6, 3, .inr (.inr (.inr (.inr fb))))), (bk, .inr (5, [.int hd, .ref xl, .ref b1, .ref b2, .ref b3, .ref b4, .int 0, .int 0, .int 0])), (b3, .inl (dA 1, 250, .inl (fun _ => 0))), (xl, .inr (2, [.ref bl, .ref no, .ref ro, .int 0]))] s.heap := hP
  have hl := lv_entry ([.ref ax, .int (nI i), .int (nI j)]) (n := 4) (Nat.le_of_ble_eq_true rfl)
  rw [lg_entry_eq]
  generalize (lg_sl ([.ref ax, .int (nI i), .int (nI j)]) ++ List.replicate (4 - (lg_sl ([.ref ax, .int (nI i), .int (nI j)])).length) Slot.unset).toArray = ls at hl ⊢
  replace hl : lv_has ls 4 [(0, .ref ax), (1, .int (nI i)), (2, .int (nI j))] := hl
  refine lv_aload_n hx hb dX11_agree_0 rfl (lv_at hl 0 rfl) ?_
  refine lv_iload_n hx hb dX11_agree_1 rfl (lv_at hl 1 rfl) ?_
  have hPc := hP.sub (ws' := [(ax, .inr (0, [.ref xt, .ref xp, .ref xs, .ref xl, .ref xb, .ref xk, .ref xm, .ref xq, .ref xg, .ref xf, .ref xe, .int 49])), (xb, .inl (dA 6, 3, .inr (.inr (.inr (.inr fb)))))]) [0, 1] rfl
  have hDc := hD.sub (ws' := [(ax, .inr (0, [.ref xt, .ref xp, .ref xs, .ref xl, .ref xb, .ref xk, .ref xm, .ref xq, .ref xg, .ref xf, .ref xe, .int 49])), (xb, .inl (dA 6, 3, .inr (.inr (.inr (.inr fb)))))]) [0, 1] (by decide) rfl
  have hFc := va_free (wc := [(ax, .inr (0, [.ref xt, .ref xp, .ref xs, .ref xl, .ref xb, .ref xk, .ref xm, .ref xq, .ref xg, .ref xf, .ref xe, .int 49])), (xb, .inl (dA 6, 3, .inr (.inr (.inr (.inr fb)))))]) hD hS hA [0, 1] rfl
  refine va_callq (va_runV (As := [.int (nI i)]) (rest := []) ⟨hx, hb, hml, hown, hw⟩ (c_bookOf l D dA dZ _ ax xt xp xs xl xb xk xm xq xg xf xe i fb bk hi hf) (z_cwV 1 hw mw_603 mw_605 ms_3 mw_1 mw_606 rfl rfl (by decide +kernel) ⟨Nat.le_of_ble_eq_true rfl, Nat.le_of_ble_eq_true rfl⟩) (zPreV hPc hK hDc hT hE hS hFc (va_recv hK hP (ci := 0) (q0 := 0) rfl rfl)) rfl rfl hl.1 rfl (lv_room (Nat.le_of_ble_eq_true rfl)) dX11_agree_2 ⟨Nat.le_of_ble_eq_true rfl, Nat.le_of_ble_eq_true rfl⟩) hS (fun q _ h => hFc q h) hFc (fun r_1 u t H1 locs ht hvm hpo hB hz1 hk1 hS => ?_)
  obtain ⟨hP1, hD1⟩ := hB
  rw [ht] at hP1
  obtain ⟨hP, hD⟩ := va_join (wr := [(bk, .inr (5, [.int hd, .ref xl, .ref b1, .ref b2, .ref b3, .ref b4, .int 0, .int 0, .int 0])), (b3, .inl (dA 1, 250, .inl (fun _ => 0))), (xl, .inr (2, [.ref bl, .ref no, .ref ro, .int 0]))]) (w1 := [(ax, .inr (0, [.ref xt, .ref xp, .ref xs, .ref xl, .ref xb, .ref xk, .ref xm, .ref xq, .ref xg, .ref xf, .ref xe, .int 49])), (xb, .inl (dA 6, 3, .inr (.inr (.inr (.inr fb)))))]) hP hD [0, 1] [2, 3, 4] rfl rfl (by decide) (by decide) hk1 hFc hP1 hD1
  generalize H1 = H at hP hS ⊢
  have hP : va_P D zcl [(bk, .inr (5, [.int hd, .ref xl, .ref b1, .ref b2, .ref b3, .ref b4, .int 0, .int 0, .int 0])), (b3, .inl (dA 1, 250, .inl (fun _ => 0))), (xl, .inr (2, [.ref bl, .ref no, .ref ro, .int 0])), (ax, .inr (0, [.ref xt, .ref xp, .ref xs, .ref xl, .ref xb, .ref xk, .ref xm, .ref xq, .ref xg, .ref xf, .ref xe, .int 49])), (xb, .inl (dA 6, 3, .inr (.inr (.inr (.inr fb)))))] H := hP
  have hD : va_D A [(bk, .inr (5, [.int hd, .ref xl, .ref b1, .ref b2, .ref b3, .ref b4, .int 0, .int 0, .int 0])), (b3, .inl (dA 1, 250, .inl (fun _ => 0))), (xl, .inr (2, [.ref bl, .ref no, .ref ro, .int 0])), (ax, .inr (0, [.ref xt, .ref xp, .ref xs, .ref xl, .ref xb, .ref xk, .ref xm, .ref xq, .ref xg, .ref xf, .ref xe, .int 49])), (xb, .inl (dA 6, 3, .inr (.inr (.inr (.inr fb)))))] := hD
  obtain rfl : r_1 = (some bk) := hpo
  refine lv_astore_n (lv' := [(3, .ref bk), (0, .ref ax), (1, .int (nI i)), (2, .int (nI j))]) hx hb dX11_agree_5 rfl hl (by decide) rfl (fun ls hl => ?_)
  refine lv_aload_n hx hb dX11_agree_6 rfl (lv_at hl 0 rfl) ?_
  refine lv_aload_n hx hb dX11_agree_7 rfl (lv_at hl 1 rfl) ?_
  refine lv_iload_n hx hb dX11_agree_8 rfl (lv_at hl 3 rfl) ?_
  have hPc := hP.sub (ws' := [(ax, .inr (0, [.ref xt, .ref xp, .ref xs, .ref xl, .ref xb, .ref xk, .ref xm, .ref xq, .ref xg, .ref xf, .ref xe, .int 49])), (xb, .inl (dA 6, 3, .inr (.inr (.inr (.inr fb)))))]) [3, 4] rfl
  have hDc := hD.sub (ws' := [(ax, .inr (0, [.ref xt, .ref xp, .ref xs, .ref xl, .ref xb, .ref xk, .ref xm, .ref xq, .ref xg, .ref xf, .ref xe, .int 49])), (xb, .inl (dA 6, 3, .inr (.inr (.inr (.inr fb)))))]) [3, 4] (by decide) rfl
  have hFc := va_free (wc := [(ax, .inr (0, [.ref xt, .ref xp, .ref xs, .ref xl, .ref xb, .ref xk, .ref xm, .ref xq, .ref xg, .ref xf, .ref xe, .int 49])), (xb, .inl (dA 6, 3, .inr (.inr (.inr (.inr fb)))))]) hD hS hA [3, 4] rfl
  refine va_callq (va_runV (As := [.int (nI j)]) (rest := [.ref bk]) ⟨hx, hb, hml, hown, hw⟩ (c_bookOf l D dA dZ _ ax xt xp xs xl xb xk xm xq xg xf xe j fb bj hj hg) (z_cwV 1 hw mw_603 mw_605 ms_3 mw_1 mw_606 rfl rfl (by decide +kernel) ⟨Nat.le_of_ble_eq_true rfl, Nat.le_of_ble_eq_true rfl⟩) (zPreV hPc hK hDc hT hE hS hFc (va_recv hK hP (ci := 0) (q0 := 3) rfl rfl)) rfl rfl hl.1 rfl (lv_room (Nat.le_of_ble_eq_true rfl)) dX11_agree_9 ⟨Nat.le_of_ble_eq_true rfl, Nat.le_of_ble_eq_true rfl⟩) hS (fun q _ h => hFc q h) hFc (fun r_2 u t H1 locs ht hvm hpo hB hz1 hk1 hS => ?_)
  obtain ⟨hP1, hD1⟩ := hB
  rw [ht] at hP1
  obtain ⟨hP, hD⟩ := va_join (wr := [(bk, .inr (5, [.int hd, .ref xl, .ref b1, .ref b2, .ref b3, .ref b4, .int 0, .int 0, .int 0])), (b3, .inl (dA 1, 250, .inl (fun _ => 0))), (xl, .inr (2, [.ref bl, .ref no, .ref ro, .int 0]))]) (w1 := [(ax, .inr (0, [.ref xt, .ref xp, .ref xs, .ref xl, .ref xb, .ref xk, .ref xm, .ref xq, .ref xg, .ref xf, .ref xe, .int 49])), (xb, .inl (dA 6, 3, .inr (.inr (.inr (.inr fb)))))]) hP hD [3, 4] [0, 1, 2] rfl rfl (by decide) (by decide) hk1 hFc hP1 hD1
  generalize H1 = H at hP hS ⊢
  have hP : va_P D zcl [(bk, .inr (5, [.int hd, .ref xl, .ref b1, .ref b2, .ref b3, .ref b4, .int 0, .int 0, .int 0])), (b3, .inl (dA 1, 250, .inl (fun _ => 0))), (xl, .inr (2, [.ref bl, .ref no, .ref ro, .int 0])), (ax, .inr (0, [.ref xt, .ref xp, .ref xs, .ref xl, .ref xb, .ref xk, .ref xm, .ref xq, .ref xg, .ref xf, .ref xe, .int 49])), (xb, .inl (dA 6, 3, .inr (.inr (.inr (.inr fb)))))] H := hP
  have hD : va_D A [(bk, .inr (5, [.int hd, .ref xl, .ref b1, .ref b2, .ref b3, .ref b4, .int 0, .int 0, .int 0])), (b3, .inl (dA 1, 250, .inl (fun _ => 0))), (xl, .inr (2, [.ref bl, .ref no, .ref ro, .int 0])), (ax, .inr (0, [.ref xt, .ref xp, .ref xs, .ref xl, .ref xb, .ref xk, .ref xm, .ref xq, .ref xg, .ref xf, .ref xe, .int 49])), (xb, .inl (dA 6, 3, .inr (.inr (.inr (.inr fb)))))] := hD
  obtain rfl : r_2 = (some bj) := hpo
  have hPc := hP.sub (ws' := [(bk, .inr (5, [.int hd, .ref xl, .ref b1, .ref b2, .ref b3, .ref b4, .int 0, .int 0, .int 0])), (xl, .inr (2, [.ref bl, .ref no, .ref ro, .int 0]))]) [0, 2] rfl
  have hDc := hD.sub (ws' := [(bk, .inr (5, [.int hd, .ref xl, .ref b1, .ref b2, .ref b3, .ref b4, .int 0, .int 0, .int 0])), (xl, .inr (2, [.ref bl, .ref no, .ref ro, .int 0]))]) [0, 2] (by decide) rfl
  have hFc := va_free (wc := [(bk, .inr (5, [.int hd, .ref xl, .ref b1, .ref b2, .ref b3, .ref b4, .int 0, .int 0, .int 0])), (xl, .inr (2, [.ref bl, .ref no, .ref ro, .int 0]))]) hD hS hA [0, 2] rfl
  refine va_calli (va_runV (As := [.ref bj]) (rest := []) ⟨hx, hb, hml, hown, hw⟩ (c_knowsTheSame0 l D dA dZ _ bk xl bj b1 b2 b3 b4 hd bl no ro) (z_cwV 1 hw mw_1376 mw_1377 mw_1378 mw_9 mw_1379 rfl rfl (by decide +kernel) ⟨Nat.le_of_ble_eq_true rfl, Nat.le_of_ble_eq_true rfl⟩) (zPreV hPc hK hDc hT hE hS hFc (va_recv hK hP (ci := 5) (q0 := 0) rfl rfl)) rfl rfl hl.1 rfl (lv_room (Nat.le_of_ble_eq_true rfl)) dX11_agree_12 ⟨Nat.le_of_ble_eq_true rfl, Nat.le_of_ble_eq_true rfl⟩) hS (fun q _ h => hFc q h) hFc (fun r_3 u t H1 locs ht hvm hpo hB hz1 hk1 hS => ?_)
  obtain ⟨hP1, hD1⟩ := hB
  rw [ht] at hP1
  obtain ⟨hP, hD⟩ := va_join (wr := [(b3, .inl (dA 1, 250, .inl (fun _ => 0))), (ax, .inr (0, [.ref xt, .ref xp, .ref xs, .ref xl, .ref xb, .ref xk, .ref xm, .ref xq, .ref xg, .ref xf, .ref xe, .int 49])), (xb, .inl (dA 6, 3, .inr (.inr (.inr (.inr fb)))))]) (w1 := [(bk, .inr (5, [.int hd, .ref xl, .ref b1, .ref b2, .ref b3, .ref b4, .int 0, .int 0, .int 0])), (xl, .inr (2, [.ref bl, .ref no, .ref ro, .int 0]))]) hP hD [0, 2] [1, 3, 4] rfl rfl (by decide) (by decide) hk1 hFc hP1 hD1
  generalize H1 = H at hP hS ⊢
  have hP : va_P D zcl [(b3, .inl (dA 1, 250, .inl (fun _ => 0))), (ax, .inr (0, [.ref xt, .ref xp, .ref xs, .ref xl, .ref xb, .ref xk, .ref xm, .ref xq, .ref xg, .ref xf, .ref xe, .int 49])), (xb, .inl (dA 6, 3, .inr (.inr (.inr (.inr fb))))), (bk, .inr (5, [.int hd, .ref xl, .ref b1, .ref b2, .ref b3, .ref b4, .int 0, .int 0, .int 0])), (xl, .inr (2, [.ref bl, .ref no, .ref ro, .int 0]))] H := hP
  have hD : va_D A [(b3, .inl (dA 1, 250, .inl (fun _ => 0))), (ax, .inr (0, [.ref xt, .ref xp, .ref xs, .ref xl, .ref xb, .ref xk, .ref xm, .ref xq, .ref xg, .ref xf, .ref xe, .int 49])), (xb, .inl (dA 6, 3, .inr (.inr (.inr (.inr fb))))), (bk, .inr (5, [.int hd, .ref xl, .ref b1, .ref b2, .ref b3, .ref b4, .int 0, .int 0, .int 0])), (xl, .inr (2, [.ref bl, .ref no, .ref ro, .int 0]))] := hD
  obtain rfl : r_3 = 1 := hpo
  have hP9 := hP.sub (ws' := [(ax, .inr (0, [.ref xt, .ref xp, .ref xs, .ref xl, .ref xb, .ref xk, .ref xm, .ref xq, .ref xg, .ref xf, .ref xe, .int 49])), (xb, .inl (dA 6, 3, .inr (.inr (.inr (.inr fb))))), (bk, .inr (5, [.int hd, .ref xl, .ref b1, .ref b2, .ref b3, .ref b4, .int 0, .int 0, .int 0])), (b3, .inl (dA 1, 250, .inl (fun _ => 0))), (xl, .inr (2, [.ref bl, .ref no, .ref ro, .int 0]))]) [1, 2, 3, 0, 4] rfl
  have hD9 := hD.sub (ws' := [(ax, .inr (0, [.ref xt, .ref xp, .ref xs, .ref xl, .ref xb, .ref xk, .ref xm, .ref xq, .ref xg, .ref xf, .ref xe, .int 49])), (xb, .inl (dA 6, 3, .inr (.inr (.inr (.inr fb))))), (bk, .inr (5, [.int hd, .ref xl, .ref b1, .ref b2, .ref b3, .ref b4, .int 0, .int 0, .int 0])), (b3, .inl (dA 1, 250, .inl (fun _ => 0))), (xl, .inr (2, [.ref bl, .ref no, .ref ro, .int 0]))]) [1, 2, 3, 0, 4] (by decide) rfl
  exact W.zret (v := 1) hx hb hr rfl (fun t ht hW => ⟨⟨1, (), rfl, rfl, by rw [ht]; exact hP9, hD9⟩, hS.F ht⟩) hS.2.2 dX11_agree_15
set_option maxHeartbeats 4000000 in
set_option maxRecDepth 100000 in
/-- agree on a fresh object: bad2 -/
theorem c_agree_bad2 (l : Launch) (D : va_G) (dA : Nat → ClassId) (dZ : Nat → Nat) (sz : Nat) (hfl : l.stackTraces = false) (ax : Nat) (xt : Nat) (xp : Nat) (xs : Nat) (xl : Nat) (xb : Nat) (xk : Nat) (xm : Nat) (xq : Nat) (xg : Nat) (xf : Nat) (xe : Nat) (i : Nat) (fb : Nat → Option Nat) (bk : Nat) (b1 : Nat) (b2 : Nat) (b3 : Nat) (b4 : Nat) (hd : Int32) (y0 : Int32) (hi : i < 3) (hf : fb i = some bk) (hz : zbad y0) : vx_Met l yX11_agree (wz yX11_agree cX11_agree 4 (some .boolean)) ({ frames := 14, cells := 1, slots := 6, locals := 400 } : Room) (va_Pc [.ref ax, .int (nI i), .int y0] (zP D dA dZ [(ax, .inr (0, [.ref xt, .ref xp, .ref xs, .ref xl, .ref xb, .ref xk, .ref xm, .ref xq, .ref xg, .ref xf, .ref xe, .int 49])), (xb, .inl (dA 6, 3, .inr (.inr (.inr (.inr fb)))))] sz)) zNo (zX "java/lang/IndexOutOfBoundsException" (va_A [(ax, .inr (0, [.ref xt, .ref xp, .ref xs, .ref xl, .ref xb, .ref xk, .ref xm, .ref xq, .ref xg, .ref xf, .ref xe, .int 49])), (xb, .inl (dA 6, 3, .inr (.inr (.inr (.inr fb)))))] sz)) 1 6 (va_A [(ax, .inr (0, [.ref xt, .ref xp, .ref xs, .ref xl, .ref xb, .ref xk, .ref xm, .ref xq, .ref xg, .ref xf, .ref xe, .int 49])), (xb, .inl (dA 6, 3, .inr (.inr (.inr (.inr fb)))))] sz) := by
  refine vx_ofW (cc := cX11_agree) (maxL := 4) (ret := (some .boolean)) (by decide) rfl ?_
  intro p e s m args below meth c s₁ B hml hno hv
  obtain ⟨rfl, hsz, hP, hK, hD0, hT, hE⟩ := hv
  have hx := B.exec
  have hb := B.bytes
  have hr := B.returns
  have hw := wz_hw (atoms_spec (ws := wz yX11_agree cX11_agree 4 (some .boolean)) B.pre)
  have hown : s.vm.findClass "KindredBooks" = some m.cls := findClass_of_methodNamed B.named
  have hlocks := B.notSynchronized
  have hn := hT.1.use (args := ([.ref ax, .int (nI i), .int y0] : List Value).toArray)
  subst hsz
  have hD := hD0.self (sz := s.heap.size)
  generalize hAe : va_A [(ax, .inr (0, [.ref xt, .ref xp, .ref xs, .ref xl, .ref xb, .ref xk, .ref xm, .ref xq, .ref xg, .ref xf, .ref xe, .int 49])), (xb, .inl (dA 6, 3, .inr (.inr (.inr (.inr fb)))))] s.heap.size = A at hD hE ⊢
  have hA : ∀ q : Nat, s.heap.size ≤ q → A q := fun q h => by rw [← hAe]; exact Or.inr h
  have hS : va_S A s.heap s.heap [] := va_S.rf
  replace hP : va_P D zcl [(ax, .inr (0, [.ref xt, .ref xp, .ref xs, .ref xl, .ref xb, .ref xk, .ref xm, .ref xq, .ref xg, .ref xf, .ref xe, .int 49])), (xb, .inl (dA 6, 3, .inr (.inr (.inr (.inr fb)))))] s.heap := hP
  have hl := lv_entry ([.ref ax, .int (nI i), .int y0]) (n := 4) (Nat.le_of_ble_eq_true rfl)
  rw [lg_entry_eq]
  generalize (lg_sl ([.ref ax, .int (nI i), .int y0]) ++ List.replicate (4 - (lg_sl ([.ref ax, .int (nI i), .int y0])).length) Slot.unset).toArray = ls at hl ⊢
  replace hl : lv_has ls 4 [(0, .ref ax), (1, .int (nI i)), (2, .int y0)] := hl
  refine lv_aload_n hx hb dX11_agree_0 rfl (lv_at hl 0 rfl) ?_
  refine lv_iload_n hx hb dX11_agree_1 rfl (lv_at hl 1 rfl) ?_
  have hPc := hP.sub (ws' := [(ax, .inr (0, [.ref xt, .ref xp, .ref xs, .ref xl, .ref xb, .ref xk, .ref xm, .ref xq, .ref xg, .ref xf, .ref xe, .int 49])), (xb, .inl (dA 6, 3, .inr (.inr (.inr (.inr fb)))))]) [0, 1] rfl
  have hDc := hD.sub (ws' := [(ax, .inr (0, [.ref xt, .ref xp, .ref xs, .ref xl, .ref xb, .ref xk, .ref xm, .ref xq, .ref xg, .ref xf, .ref xe, .int 49])), (xb, .inl (dA 6, 3, .inr (.inr (.inr (.inr fb)))))]) [0, 1] (by decide) rfl
  have hFc := va_free (wc := [(ax, .inr (0, [.ref xt, .ref xp, .ref xs, .ref xl, .ref xb, .ref xk, .ref xm, .ref xq, .ref xg, .ref xf, .ref xe, .int 49])), (xb, .inl (dA 6, 3, .inr (.inr (.inr (.inr fb)))))]) hD hS hA [0, 1] rfl
  refine va_callq (va_runV (As := [.int (nI i)]) (rest := []) ⟨hx, hb, hml, hown, hw⟩ (c_bookOf l D dA dZ _ ax xt xp xs xl xb xk xm xq xg xf xe i fb bk hi hf) (z_cwV 1 hw mw_603 mw_605 ms_3 mw_1 mw_606 rfl rfl (by decide +kernel) ⟨Nat.le_of_ble_eq_true rfl, Nat.le_of_ble_eq_true rfl⟩) (zPreV hPc hK hDc hT hE hS hFc (va_recv hK hP (ci := 0) (q0 := 0) rfl rfl)) rfl rfl hl.1 rfl (lv_room (Nat.le_of_ble_eq_true rfl)) dX11_agree_2 ⟨Nat.le_of_ble_eq_true rfl, Nat.le_of_ble_eq_true rfl⟩) hS (fun q _ h => hFc q h) hFc (fun r_1 u t H1 locs ht hvm hpo hB hz1 hk1 hS => ?_)
  obtain ⟨hP1, hD1⟩ := hB
  rw [ht] at hP1
  obtain ⟨hP, hD⟩ := va_join (wr := []) (w1 := [(ax, .inr (0, [.ref xt, .ref xp, .ref xs, .ref xl, .ref xb, .ref xk, .ref xm, .ref xq, .ref xg, .ref xf, .ref xe, .int 49])), (xb, .inl (dA 6, 3, .inr (.inr (.inr (.inr fb)))))]) hP hD [0, 1] [] rfl rfl (by decide) (by decide) hk1 hFc hP1 hD1
  generalize H1 = H at hP hS ⊢
  have hP : va_P D zcl [(ax, .inr (0, [.ref xt, .ref xp, .ref xs, .ref xl, .ref xb, .ref xk, .ref xm, .ref xq, .ref xg, .ref xf, .ref xe, .int 49])), (xb, .inl (dA 6, 3, .inr (.inr (.inr (.inr fb)))))] H := hP
  have hD : va_D A [(ax, .inr (0, [.ref xt, .ref xp, .ref xs, .ref xl, .ref xb, .ref xk, .ref xm, .ref xq, .ref xg, .ref xf, .ref xe, .int 49])), (xb, .inl (dA 6, 3, .inr (.inr (.inr (.inr fb)))))] := hD
  obtain rfl : r_1 = (some bk) := hpo
  refine lv_astore_n (lv' := [(3, .ref bk), (0, .ref ax), (1, .int (nI i)), (2, .int y0)]) hx hb dX11_agree_5 rfl hl (by decide) rfl (fun ls hl => ?_)
  refine lv_aload_n hx hb dX11_agree_6 rfl (lv_at hl 0 rfl) ?_
  refine lv_aload_n hx hb dX11_agree_7 rfl (lv_at hl 1 rfl) ?_
  refine lv_iload_n hx hb dX11_agree_8 rfl (lv_at hl 3 rfl) ?_
  have hPc := hP.sub (ws' := []) [] rfl
  have hDc := hD.sub (ws' := []) [] (by decide) rfl
  have hFc := va_free (wc := []) hD hS hA [] rfl
  refine zx_call (E0 := "java/lang/IndexOutOfBoundsException") (vx_runV (As := [.int y0]) (rest := [.ref bk]) ⟨hx, hb, hml, hown, hw⟩ (c_bookOf_no l D dA dZ _ hfl ax y0 hz) (z_cwV 1 hw mw_603 mw_605 ms_3 mw_1 mw_606 rfl rfl (by decide +kernel) ⟨Nat.le_of_ble_eq_true rfl, Nat.le_of_ble_eq_true rfl⟩) (zPreV hPc hK hDc hT hE hS hFc (va_recv hK hP (ci := 0) (q0 := 0) rfl rfl)) rfl rfl hl.1 rfl (lv_room (Nat.le_of_ble_eq_true rfl)) dX11_agree_9 ⟨Nat.le_of_ble_eq_true rfl, Nat.le_of_ble_eq_true rfl⟩) hS (fun q _ h => hFc q h) hFc (fun ce q9 H1 locs hz1 hk1 hS hce hcv hcl => ?_)
  exact vx_out (fun x hx => (hno x hx).elim) hlocks hce hcv hcl (fun t ht ha => zX_at hS ht) hS.2.2 (Nat.le_of_ble_eq_true rfl) (Nat.le_of_ble_eq_true rfl)
set_option maxHeartbeats 4000000 in
set_option maxRecDepth 100000 in
/-- change on a fresh object: none -/
theorem c_change_none (l : Launch) (D : va_G) (dA : Nat → ClassId) (dZ : Nat → Nat) (sz : Nat) (hfl : l.stackTraces = false) (ax : Nat) (xt : Nat) (xp : Nat) (xs : Nat) (xl : Nat) (xb : Nat) (xk : Nat) (xm : Nat) (xq : Nat) (xg : Nat) (xf : Nat) (xe : Nat) (bl : Nat) (no : Nat) (ro : Nat) (y0 : Int32) (y1 : Int32) : vx_Met l yX11_change (wz yX11_change cX11_change 4 (some .int)) ({ frames := 14, cells := 1, slots := 6, locals := 400 } : Room) (va_Pc [.ref ax, .int y0, .int y1] (zP D dA dZ [(ax, .inr (0, [.ref xt, .ref xp, .ref xs, .ref xl, .ref xb, .ref xk, .ref xm, .ref xq, .ref xg, .ref xf, .ref xe, .int 49])), (xl, .inr (2, [.ref bl, .ref no, .ref ro, .int 0]))] sz)) zNo (zX "java/lang/IndexOutOfBoundsException" (va_A [(ax, .inr (0, [.ref xt, .ref xp, .ref xs, .ref xl, .ref xb, .ref xk, .ref xm, .ref xq, .ref xg, .ref xf, .ref xe, .int 49])), (xl, .inr (2, [.ref bl, .ref no, .ref ro, .int 0]))] sz)) 1 6 (va_A [(ax, .inr (0, [.ref xt, .ref xp, .ref xs, .ref xl, .ref xb, .ref xk, .ref xm, .ref xq, .ref xg, .ref xf, .ref xe, .int 49])), (xl, .inr (2, [.ref bl, .ref no, .ref ro, .int 0]))] sz) := by
  refine vx_ofW (cc := cX11_change) (maxL := 4) (ret := (some .int)) (by decide) rfl ?_
  intro p e s m args below meth c s₁ B hml hno hv
  obtain ⟨rfl, hsz, hP, hK, hD0, hT, hE⟩ := hv
  have hx := B.exec
  have hb := B.bytes
  have hr := B.returns
  have hw := wz_hw (atoms_spec (ws := wz yX11_change cX11_change 4 (some .int)) B.pre)
  have hown : s.vm.findClass "KindredBooks" = some m.cls := findClass_of_methodNamed B.named
  have hlocks := B.notSynchronized
  have hn := hT.1.use (args := ([.ref ax, .int y0, .int y1] : List Value).toArray)
  subst hsz
  have hD := hD0.self (sz := s.heap.size)
  generalize hAe : va_A [(ax, .inr (0, [.ref xt, .ref xp, .ref xs, .ref xl, .ref xb, .ref xk, .ref xm, .ref xq, .ref xg, .ref xf, .ref xe, .int 49])), (xl, .inr (2, [.ref bl, .ref no, .ref ro, .int 0]))] s.heap.size = A at hD hE ⊢
  have hA : ∀ q : Nat, s.heap.size ≤ q → A q := fun q h => by rw [← hAe]; exact Or.inr h
  have hS : va_S A s.heap s.heap [] := va_S.rf
  replace hP : va_P D zcl [(ax, .inr (0, [.ref xt, .ref xp, .ref xs, .ref xl, .ref xb, .ref xk, .ref xm, .ref xq, .ref xg, .ref xf, .ref xe, .int 49])), (xl, .inr (2, [.ref bl, .ref no, .ref ro, .int 0]))] s.heap := hP
  have hl := lv_entry ([.ref ax, .int y0, .int y1]) (n := 4) (Nat.le_of_ble_eq_true rfl)
  rw [lg_entry_eq]
  generalize (lg_sl ([.ref ax, .int y0, .int y1]) ++ List.replicate (4 - (lg_sl ([.ref ax, .int y0, .int y1])).length) Slot.unset).toArray = ls at hl ⊢
  replace hl : lv_has ls 4 [(0, .ref ax), (1, .int y0), (2, .int y1)] := hl
  refine lv_aload_n hx hb dX11_change_0 rfl (lv_at hl 0 rfl) ?_
  refine lv_iload_n hx hb dX11_change_1 rfl (lv_at hl 1 rfl) ?_
  have hPc := hP.sub (ws' := [(ax, .inr (0, [.ref xt, .ref xp, .ref xs, .ref xl, .ref xb, .ref xk, .ref xm, .ref xq, .ref xg, .ref xf, .ref xe, .int 49])), (xl, .inr (2, [.ref bl, .ref no, .ref ro, .int 0]))]) [0, 1] rfl
  have hDc := hD.sub (ws' := [(ax, .inr (0, [.ref xt, .ref xp, .ref xs, .ref xl, .ref xb, .ref xk, .ref xm, .ref xq, .ref xg, .ref xf, .ref xe, .int 49])), (xl, .inr (2, [.ref bl, .ref no, .ref ro, .int 0]))]) [0, 1] (by decide) rfl
  have hFc := va_free (wc := [(ax, .inr (0, [.ref xt, .ref xp, .ref xs, .ref xl, .ref xb, .ref xk, .ref xm, .ref xq, .ref xg, .ref xf, .ref xe, .int 49])), (xl, .inr (2, [.ref bl, .ref no, .ref ro, .int 0]))]) hD hS hA [0, 1] rfl
  refine zx_call (E0 := "java/lang/IndexOutOfBoundsException") (vx_runV (As := [.int y0]) (rest := []) ⟨hx, hb, hml, hown, hw⟩ (c_checkChange_no l D dA dZ _ hfl ax xt xp xs xl xb xk xm xq xg xf xe bl no ro y0) (z_cwV 1 hw mw_789 mw_791 ms_16 mw_1 mw_792 rfl rfl (by decide +kernel) ⟨Nat.le_of_ble_eq_true rfl, Nat.le_of_ble_eq_true rfl⟩) (zPreV hPc hK hDc hT hE hS hFc (va_recv hK hP (ci := 0) (q0 := 0) rfl rfl)) rfl rfl hl.1 rfl (lv_room (Nat.le_of_ble_eq_true rfl)) dX11_change_2 ⟨Nat.le_of_ble_eq_true rfl, Nat.le_of_ble_eq_true rfl⟩) hS (fun q _ h => hFc q h) hFc (fun ce q9 H1 locs hz1 hk1 hS hce hcv hcl => ?_)
  exact vx_out (fun x hx => (hno x hx).elim) hlocks hce hcv hcl (fun t ht ha => zX_at hS ht) hS.2.2 (Nat.le_of_ble_eq_true rfl) (Nat.le_of_ble_eq_true rfl)
set_option maxHeartbeats 4000000 in
set_option maxRecDepth 100000 in
/-- write on a fresh object: none -/
theorem c_write_none (l : Launch) (D : va_G) (dA : Nat → ClassId) (dZ : Nat → Nat) (sz : Nat) (hfl : l.stackTraces = false) (ax : Nat) (xt : Nat) (xp : Nat) (xs : Nat) (xl : Nat) (xb : Nat) (xk : Nat) (xm : Nat) (xq : Nat) (xg : Nat) (xf : Nat) (xe : Nat) (bl : Nat) (no : Nat) (ro : Nat) (y0 : Int32) (y1 : Int32) : vx_Met l yX11_write (wz yX11_write cX11_write 4 (some .int)) ({ frames := 14, cells := 1, slots := 6, locals := 400 } : Room) (va_Pc [.ref ax, .int y0, .int y1] (zP D dA dZ [(ax, .inr (0, [.ref xt, .ref xp, .ref xs, .ref xl, .ref xb, .ref xk, .ref xm, .ref xq, .ref xg, .ref xf, .ref xe, .int 49])), (xl, .inr (2, [.ref bl, .ref no, .ref ro, .int 0]))] sz)) zNo (zX "java/lang/IndexOutOfBoundsException" (va_A [(ax, .inr (0, [.ref xt, .ref xp, .ref xs, .ref xl, .ref xb, .ref xk, .ref xm, .ref xq, .ref xg, .ref xf, .ref xe, .int 49])), (xl, .inr (2, [.ref bl, .ref no, .ref ro, .int 0]))] sz)) 1 6 (va_A [(ax, .inr (0, [.ref xt, .ref xp, .ref xs, .ref xl, .ref xb, .ref xk, .ref xm, .ref xq, .ref xg, .ref xf, .ref xe, .int 49])), (xl, .inr (2, [.ref bl, .ref no, .ref ro, .int 0]))] sz) := by
  refine vx_ofW (cc := cX11_write) (maxL := 4) (ret := (some .int)) (by decide) rfl ?_
  intro p e s m args below meth c s₁ B hml hno hv
  obtain ⟨rfl, hsz, hP, hK, hD0, hT, hE⟩ := hv
  have hx := B.exec
  have hb := B.bytes
  have hr := B.returns
  have hw := wz_hw (atoms_spec (ws := wz yX11_write cX11_write 4 (some .int)) B.pre)
  have hown : s.vm.findClass "KindredBooks" = some m.cls := findClass_of_methodNamed B.named
  have hlocks := B.notSynchronized
  have hn := hT.1.use (args := ([.ref ax, .int y0, .int y1] : List Value).toArray)
  subst hsz
  have hD := hD0.self (sz := s.heap.size)
  generalize hAe : va_A [(ax, .inr (0, [.ref xt, .ref xp, .ref xs, .ref xl, .ref xb, .ref xk, .ref xm, .ref xq, .ref xg, .ref xf, .ref xe, .int 49])), (xl, .inr (2, [.ref bl, .ref no, .ref ro, .int 0]))] s.heap.size = A at hD hE ⊢
  have hA : ∀ q : Nat, s.heap.size ≤ q → A q := fun q h => by rw [← hAe]; exact Or.inr h
  have hS : va_S A s.heap s.heap [] := va_S.rf
  replace hP : va_P D zcl [(ax, .inr (0, [.ref xt, .ref xp, .ref xs, .ref xl, .ref xb, .ref xk, .ref xm, .ref xq, .ref xg, .ref xf, .ref xe, .int 49])), (xl, .inr (2, [.ref bl, .ref no, .ref ro, .int 0]))] s.heap := hP
  have hl := lv_entry ([.ref ax, .int y0, .int y1]) (n := 4) (Nat.le_of_ble_eq_true rfl)
  rw [lg_entry_eq]
  generalize (lg_sl ([.ref ax, .int y0, .int y1]) ++ List.replicate (4 - (lg_sl ([.ref ax, .int y0, .int y1])).length) Slot.unset).toArray = ls at hl ⊢
  replace hl : lv_has ls 4 [(0, .ref ax), (1, .int y0), (2, .int y1)] := hl
  refine lv_aload_n hx hb dX11_write_0 rfl (lv_at hl 0 rfl) ?_
  refine lv_iload_n hx hb dX11_write_1 rfl (lv_at hl 1 rfl) ?_
  have hPc := hP.sub (ws' := [(ax, .inr (0, [.ref xt, .ref xp, .ref xs, .ref xl, .ref xb, .ref xk, .ref xm, .ref xq, .ref xg, .ref xf, .ref xe, .int 49])), (xl, .inr (2, [.ref bl, .ref no, .ref ro, .int 0]))]) [0, 1] rfl
  have hDc := hD.sub (ws' := [(ax, .inr (0, [.ref xt, .ref xp, .ref xs, .ref xl, .ref xb, .ref xk, .ref xm, .ref xq, .ref xg, .ref xf, .ref xe, .int 49])), (xl, .inr (2, [.ref bl, .ref no, .ref ro, .int 0]))]) [0, 1] (by decide) rfl
  have hFc := va_free (wc := [(ax, .inr (0, [.ref xt, .ref xp, .ref xs, .ref xl, .ref xb, .ref xk, .ref xm, .ref xq, .ref xg, .ref xf, .ref xe, .int 49])), (xl, .inr (2, [.ref bl, .ref no, .ref ro, .int 0]))]) hD hS hA [0, 1] rfl
  refine zx_call (E0 := "java/lang/IndexOutOfBoundsException") (vx_runV (As := [.int y0]) (rest := []) ⟨hx, hb, hml, hown, hw⟩ (c_checkChange_no l D dA dZ _ hfl ax xt xp xs xl xb xk xm xq xg xf xe bl no ro y0) (z_cwV 1 hw mw_789 mw_791 ms_16 mw_1 mw_792 rfl rfl (by decide +kernel) ⟨Nat.le_of_ble_eq_true rfl, Nat.le_of_ble_eq_true rfl⟩) (zPreV hPc hK hDc hT hE hS hFc (va_recv hK hP (ci := 0) (q0 := 0) rfl rfl)) rfl rfl hl.1 rfl (lv_room (Nat.le_of_ble_eq_true rfl)) dX11_write_2 ⟨Nat.le_of_ble_eq_true rfl, Nat.le_of_ble_eq_true rfl⟩) hS (fun q _ h => hFc q h) hFc (fun ce q9 H1 locs hz1 hk1 hS hce hcv hcl => ?_)
  exact vx_out (fun x hx => (hno x hx).elim) hlocks hce hcv hcl (fun t ht ha => zX_at hS ht) hS.2.2 (Nat.le_of_ble_eq_true rfl) (Nat.le_of_ble_eq_true rfl)
set_option maxHeartbeats 4000000 in
set_option maxRecDepth 100000 in
/-- holds on a fresh object: none -/
theorem c_holds_none (l : Launch) (D : va_G) (dA : Nat → ClassId) (dZ : Nat → Nat) (sz : Nat) (hfl : l.stackTraces = false) (ax : Nat) (xt : Nat) (xp : Nat) (xs : Nat) (xl : Nat) (xb : Nat) (xk : Nat) (xm : Nat) (xq : Nat) (xg : Nat) (xf : Nat) (xe : Nat) (i : Nat) (fk : Nat → Option Nat) (kn : Nat) (bk : Nat) (k1 : Nat) (k2 : Nat) (k3 : Nat) (k4 : Nat) (k5 : Nat) (k6 : Nat) (k7 : Nat) (k8 : Nat) (k9 : Nat) (b1 : Nat) (b2 : Nat) (b3 : Nat) (b4 : Nat) (bl : Nat) (no : Nat) (ro : Nat) (hd : Int32) (f1 : Nat → Int32) (f2 : Nat → Int32) (f5 : Nat → Int32) (fb : Nat → Option Nat) (y0 : Int32) (hi : i < 3) (hk : fk i = some kn) : vx_Met l yX11_holds (wz yX11_holds cX11_holds 4 (some .boolean)) ({ frames := 14, cells := 1, slots := 6, locals := 400 } : Room) (va_Pc [.ref ax, .int (nI i), .int y0] (zP D dA dZ [(ax, .inr (0, [.ref xt, .ref xp, .ref xs, .ref xl, .ref xb, .ref xk, .ref xm, .ref xq, .ref xg, .ref xf, .ref xe, .int 49])), (xk, .inl (dA 7, 3, .inr (.inr (.inr (.inr fk))))), (xb, .inl (dA 6, 3, .inr (.inr (.inr (.inr fb))))), (kn, .inr (6, [.ref bk, .ref xl, .ref k1, .ref k2, .ref k3, .int 0, .ref k4, .ref k5, .ref k6, .ref k7, .ref k8, .ref k9, .int (-1)])), (bk, .inr (5, [.int hd, .ref xl, .ref b1, .ref b2, .ref b3, .ref b4, .int 0, .int 0, .int 0])), (b3, .inl (dA 1, 250, .inl (fun _ => 0))), (xl, .inr (2, [.ref bl, .ref no, .ref ro, .int 0])), (k1, .inl (dA 0, 250, .inl f1)), (k2, .inl (dA 1, 250, .inl f2)), (k5, .inl (dA 0, 251, .inl f5))] sz)) zNo (zX "java/lang/IndexOutOfBoundsException" (va_A [(ax, .inr (0, [.ref xt, .ref xp, .ref xs, .ref xl, .ref xb, .ref xk, .ref xm, .ref xq, .ref xg, .ref xf, .ref xe, .int 49])), (xk, .inl (dA 7, 3, .inr (.inr (.inr (.inr fk))))), (xb, .inl (dA 6, 3, .inr (.inr (.inr (.inr fb))))), (kn, .inr (6, [.ref bk, .ref xl, .ref k1, .ref k2, .ref k3, .int 0, .ref k4, .ref k5, .ref k6, .ref k7, .ref k8, .ref k9, .int (-1)])), (bk, .inr (5, [.int hd, .ref xl, .ref b1, .ref b2, .ref b3, .ref b4, .int 0, .int 0, .int 0])), (b3, .inl (dA 1, 250, .inl (fun _ => 0))), (xl, .inr (2, [.ref bl, .ref no, .ref ro, .int 0])), (k1, .inl (dA 0, 250, .inl f1)), (k2, .inl (dA 1, 250, .inl f2)), (k5, .inl (dA 0, 251, .inl f5))] sz)) 1 6 (va_A [(ax, .inr (0, [.ref xt, .ref xp, .ref xs, .ref xl, .ref xb, .ref xk, .ref xm, .ref xq, .ref xg, .ref xf, .ref xe, .int 49])), (xk, .inl (dA 7, 3, .inr (.inr (.inr (.inr fk))))), (xb, .inl (dA 6, 3, .inr (.inr (.inr (.inr fb))))), (kn, .inr (6, [.ref bk, .ref xl, .ref k1, .ref k2, .ref k3, .int 0, .ref k4, .ref k5, .ref k6, .ref k7, .ref k8, .ref k9, .int (-1)])), (bk, .inr (5, [.int hd, .ref xl, .ref b1, .ref b2, .ref b3, .ref b4, .int 0, .int 0, .int 0])), (b3, .inl (dA 1, 250, .inl (fun _ => 0))), (xl, .inr (2, [.ref bl, .ref no, .ref ro, .int 0])), (k1, .inl (dA 0, 250, .inl f1)), (k2, .inl (dA 1, 250, .inl f2)), (k5, .inl (dA 0, 251, .inl f5))] sz) := by
  refine vx_ofW (cc := cX11_holds) (maxL := 4) (ret := (some .boolean)) (by decide) rfl ?_
  intro p e s m args below meth c s₁ B hml hno hv
  obtain ⟨rfl, hsz, hP, hK, hD0, hT, hE⟩ := hv
  have hx := B.exec
  have hb := B.bytes
  have hr := B.returns
  have hw := wz_hw (atoms_spec (ws := wz yX11_holds cX11_holds 4 (some .boolean)) B.pre)
  have hown : s.vm.findClass "KindredBooks" = some m.cls := findClass_of_methodNamed B.named
  have hlocks := B.notSynchronized
  have hn := hT.1.use (args := ([.ref ax, .int (nI i), .int y0] : List Value).toArray)
  subst hsz
  have hD := hD0.self (sz := s.heap.size)
  generalize hAe : va_A [(ax, .inr (0, [.ref xt, .ref xp, .ref xs, .ref xl, .ref xb, .ref xk, .ref xm, .ref xq, .ref xg, .ref xf, .ref xe, .int 49])), (xk, .inl (dA 7, 3, .inr (.inr (.inr (.inr fk))))), (xb, .inl (dA 6, 3, .inr (.inr (.inr (.inr fb))))), (kn, .inr (6, [.ref bk, .ref xl, .ref k1, .ref k2, .ref k3, .int 0, .ref k4, .ref k5, .ref k6, .ref k7, .ref k8, .ref k9, .int (-1)])), (bk, .inr (5, [.int hd, .ref xl, .ref b1, .ref b2, .ref b3, .ref b4, .int 0, .int 0, .int 0])), (b3, .inl (dA 1, 250, .inl (fun _ => 0))), (xl, .inr (2, [.ref bl, .ref no, .ref ro, .int 0])), (k1, .inl (dA 0, 250, .inl f1)), (k2, .inl (dA 1, 250, .inl f2)), (k5, .inl (dA 0, 251, .inl f5))] s.heap.size = A at hD hE ⊢
  have hA : ∀ q : Nat, s.heap.size ≤ q → A q := fun q h => by rw [← hAe]; exact Or.inr h
  have hS : va_S A s.heap s.heap [] := va_S.rf
  replace hP : va_P D zcl [(ax, .inr (0, [.ref xt, .ref xp, .ref xs, .ref xl, .ref xb, .ref xk, .ref xm, .ref xq, .ref xg, .ref xf, .ref xe, .int 49])), (xk, .inl (dA 7, 3, .inr (.inr (.inr (.inr fk))))), (xb, .inl (dA 6, 3, .inr (.inr (.inr (.inr fb))))), (kn, .inr (6, [.ref bk, .ref xl, .ref k1, .ref k2, .ref k3, .int 0, .ref k4, .ref k5, .ref k6, .ref k7, .ref k8, .ref k9, .int (-1)])), (bk, .inr (5, [.int hd, .ref xl, .ref b1, .ref b2, .ref b3, .ref b4, .int 0, .int 0, .int 0])), (b3, .inl (dA 1, 250, .inl (fun _ => 0))), (xl, .inr (2, [.ref bl, .ref no, .ref ro, .int 0])), (k1, .inl (dA 0, 250, .inl f1)), (k2, .inl (dA 1, 250, .inl f2)), (k5, .inl (dA 0, 251, .inl f5))] s.heap := hP
  have hl := lv_entry ([.ref ax, .int (nI i), .int y0]) (n := 4) (Nat.le_of_ble_eq_true rfl)
  rw [lg_entry_eq]
  generalize (lg_sl ([.ref ax, .int (nI i), .int y0]) ++ List.replicate (4 - (lg_sl ([.ref ax, .int (nI i), .int y0])).length) Slot.unset).toArray = ls at hl ⊢
  replace hl : lv_has ls 4 [(0, .ref ax), (1, .int (nI i)), (2, .int y0)] := hl
  refine lv_aload_n hx hb dX11_holds_0 rfl (lv_at hl 0 rfl) ?_
  refine lv_iload_n hx hb dX11_holds_1 rfl (lv_at hl 1 rfl) ?_
  have hPc := hP.sub (ws' := [(ax, .inr (0, [.ref xt, .ref xp, .ref xs, .ref xl, .ref xb, .ref xk, .ref xm, .ref xq, .ref xg, .ref xf, .ref xe, .int 49])), (xk, .inl (dA 7, 3, .inr (.inr (.inr (.inr fk))))), (kn, .inr (6, [.ref bk, .ref xl, .ref k1, .ref k2, .ref k3, .int 0, .ref k4, .ref k5, .ref k6, .ref k7, .ref k8, .ref k9, .int (-1)])), (bk, .inr (5, [.int hd, .ref xl, .ref b1, .ref b2, .ref b3, .ref b4, .int 0, .int 0, .int 0])), (b3, .inl (dA 1, 250, .inl (fun _ => 0))), (xl, .inr (2, [.ref bl, .ref no, .ref ro, .int 0])), (k1, .inl (dA 0, 250, .inl f1)), (k2, .inl (dA 1, 250, .inl f2)), (k5, .inl (dA 0, 251, .inl f5))]) [0, 1, 3, 4, 5, 6, 7, 8, 9] rfl
  have hDc := hD.sub (ws' := [(ax, .inr (0, [.ref xt, .ref xp, .ref xs, .ref xl, .ref xb, .ref xk, .ref xm, .ref xq, .ref xg, .ref xf, .ref xe, .int 49])), (xk, .inl (dA 7, 3, .inr (.inr (.inr (.inr fk))))), (kn, .inr (6, [.ref bk, .ref xl, .ref k1, .ref k2, .ref k3, .int 0, .ref k4, .ref k5, .ref k6, .ref k7, .ref k8, .ref k9, .int (-1)])), (bk, .inr (5, [.int hd, .ref xl, .ref b1, .ref b2, .ref b3, .ref b4, .int 0, .int 0, .int 0])), (b3, .inl (dA 1, 250, .inl (fun _ => 0))), (xl, .inr (2, [.ref bl, .ref no, .ref ro, .int 0])), (k1, .inl (dA 0, 250, .inl f1)), (k2, .inl (dA 1, 250, .inl f2)), (k5, .inl (dA 0, 251, .inl f5))]) [0, 1, 3, 4, 5, 6, 7, 8, 9] (by decide) rfl
  have hFc := va_free (wc := [(ax, .inr (0, [.ref xt, .ref xp, .ref xs, .ref xl, .ref xb, .ref xk, .ref xm, .ref xq, .ref xg, .ref xf, .ref xe, .int 49])), (xk, .inl (dA 7, 3, .inr (.inr (.inr (.inr fk))))), (kn, .inr (6, [.ref bk, .ref xl, .ref k1, .ref k2, .ref k3, .int 0, .ref k4, .ref k5, .ref k6, .ref k7, .ref k8, .ref k9, .int (-1)])), (bk, .inr (5, [.int hd, .ref xl, .ref b1, .ref b2, .ref b3, .ref b4, .int 0, .int 0, .int 0])), (b3, .inl (dA 1, 250, .inl (fun _ => 0))), (xl, .inr (2, [.ref bl, .ref no, .ref ro, .int 0])), (k1, .inl (dA 0, 250, .inl f1)), (k2, .inl (dA 1, 250, .inl f2)), (k5, .inl (dA 0, 251, .inl f5))]) hD hS hA [0, 1, 3, 4, 5, 6, 7, 8, 9] rfl
  refine va_callq (va_runV (As := [.int (nI i)]) (rest := []) ⟨hx, hb, hml, hown, hw⟩ (c_kinOf l D dA dZ _ ax xt xp xs xl xb xk xm xq xg xf xe i fk kn bk k1 k2 k3 k4 k5 k6 k7 k8 k9 b1 b2 b3 b4 bl no ro hd f1 f2 f5 hi hk) (z_cwV 1 hw mw_863 mw_865 ms_17 mw_1 mw_866 rfl rfl (by decide +kernel) ⟨Nat.le_of_ble_eq_true rfl, Nat.le_of_ble_eq_true rfl⟩) (zPreV hPc hK hDc hT hE hS hFc (va_recv hK hP (ci := 0) (q0 := 0) rfl rfl)) rfl rfl hl.1 rfl (lv_room (Nat.le_of_ble_eq_true rfl)) dX11_holds_2 ⟨Nat.le_of_ble_eq_true rfl, Nat.le_of_ble_eq_true rfl⟩) hS (fun q _ h => hFc q h) hFc (fun r_1 u t H1 locs ht hvm hpo hB hz1 hk1 hS => ?_)
  obtain ⟨g1, g2, g5⟩ := u
  try dsimp only at hpo hB
  obtain ⟨hP1, hD1⟩ := hB
  rw [ht] at hP1
  obtain ⟨hP, hD⟩ := va_join (wr := [(xb, .inl (dA 6, 3, .inr (.inr (.inr (.inr fb)))))]) (w1 := [(ax, .inr (0, [.ref xt, .ref xp, .ref xs, .ref xl, .ref xb, .ref xk, .ref xm, .ref xq, .ref xg, .ref xf, .ref xe, .int 49])), (xk, .inl (dA 7, 3, .inr (.inr (.inr (.inr fk))))), (kn, .inr (6, [.ref bk, .ref xl, .ref k1, .ref k2, .ref k3, .int 0, .ref k4, .ref k5, .ref k6, .ref k7, .ref k8, .ref k9, .int 0])), (bk, .inr (5, [.int hd, .ref xl, .ref b1, .ref b2, .ref b3, .ref b4, .int 0, .int 0, .int 0])), (b3, .inl (dA 1, 250, .inl (fun _ => 0))), (xl, .inr (2, [.ref bl, .ref no, .ref ro, .int 0])), (k1, .inl (dA 0, 250, .inl g1)), (k2, .inl (dA 1, 250, .inl g2)), (k5, .inl (dA 0, 251, .inl g5))]) hP hD [0, 1, 3, 4, 5, 6, 7, 8, 9] [2] rfl rfl (by decide) (by decide) hk1 hFc hP1 hD1
  generalize H1 = H at hP hS ⊢
  have hP : va_P D zcl [(xb, .inl (dA 6, 3, .inr (.inr (.inr (.inr fb))))), (ax, .inr (0, [.ref xt, .ref xp, .ref xs, .ref xl, .ref xb, .ref xk, .ref xm, .ref xq, .ref xg, .ref xf, .ref xe, .int 49])), (xk, .inl (dA 7, 3, .inr (.inr (.inr (.inr fk))))), (kn, .inr (6, [.ref bk, .ref xl, .ref k1, .ref k2, .ref k3, .int 0, .ref k4, .ref k5, .ref k6, .ref k7, .ref k8, .ref k9, .int 0])), (bk, .inr (5, [.int hd, .ref xl, .ref b1, .ref b2, .ref b3, .ref b4, .int 0, .int 0, .int 0])), (b3, .inl (dA 1, 250, .inl (fun _ => 0))), (xl, .inr (2, [.ref bl, .ref no, .ref ro, .int 0])), (k1, .inl (dA 0, 250, .inl g1)), (k2, .inl (dA 1, 250, .inl g2)), (k5, .inl (dA 0, 251, .inl g5))] H := hP
  have hD : va_D A [(xb, .inl (dA 6, 3, .inr (.inr (.inr (.inr fb))))), (ax, .inr (0, [.ref xt, .ref xp, .ref xs, .ref xl, .ref xb, .ref xk, .ref xm, .ref xq, .ref xg, .ref xf, .ref xe, .int 49])), (xk, .inl (dA 7, 3, .inr (.inr (.inr (.inr fk))))), (kn, .inr (6, [.ref bk, .ref xl, .ref k1, .ref k2, .ref k3, .int 0, .ref k4, .ref k5, .ref k6, .ref k7, .ref k8, .ref k9, .int 0])), (bk, .inr (5, [.int hd, .ref xl, .ref b1, .ref b2, .ref b3, .ref b4, .int 0, .int 0, .int 0])), (b3, .inl (dA 1, 250, .inl (fun _ => 0))), (xl, .inr (2, [.ref bl, .ref no, .ref ro, .int 0])), (k1, .inl (dA 0, 250, .inl g1)), (k2, .inl (dA 1, 250, .inl g2)), (k5, .inl (dA 0, 251, .inl g5))] := hD
  obtain rfl : r_1 = (some kn) := hpo
  refine lv_astore_n (lv' := [(3, .ref kn), (0, .ref ax), (1, .int (nI i)), (2, .int y0)]) hx hb dX11_holds_5 rfl hl (by decide) rfl (fun ls hl => ?_)
  refine lv_aload_n hx hb dX11_holds_6 rfl (lv_at hl 1 rfl) ?_
  refine lv_iload_n hx hb dX11_holds_7 rfl (lv_at hl 3 rfl) ?_
  have hPc := hP.sub (ws' := [(ax, .inr (0, [.ref xt, .ref xp, .ref xs, .ref xl, .ref xb, .ref xk, .ref xm, .ref xq, .ref xg, .ref xf, .ref xe, .int 49])), (xl, .inr (2, [.ref bl, .ref no, .ref ro, .int 0]))]) [1, 6] rfl
  have hDc := hD.sub (ws' := [(ax, .inr (0, [.ref xt, .ref xp, .ref xs, .ref xl, .ref xb, .ref xk, .ref xm, .ref xq, .ref xg, .ref xf, .ref xe, .int 49])), (xl, .inr (2, [.ref bl, .ref no, .ref ro, .int 0]))]) [1, 6] (by decide) rfl
  have hFc := va_free (wc := [(ax, .inr (0, [.ref xt, .ref xp, .ref xs, .ref xl, .ref xb, .ref xk, .ref xm, .ref xq, .ref xg, .ref xf, .ref xe, .int 49])), (xl, .inr (2, [.ref bl, .ref no, .ref ro, .int 0]))]) hD hS hA [1, 6] rfl
  refine zx_call (E0 := "java/lang/IndexOutOfBoundsException") (vx_runV (As := [.int y0]) (rest := []) ⟨hx, hb, hml, hown, hw⟩ (c_checkChange_no l D dA dZ _ hfl ax xt xp xs xl xb xk xm xq xg xf xe bl no ro y0) (z_cwV 1 hw mw_789 mw_791 ms_16 mw_1 mw_792 rfl rfl (by decide +kernel) ⟨Nat.le_of_ble_eq_true rfl, Nat.le_of_ble_eq_true rfl⟩) (zPreV hPc hK hDc hT hE hS hFc (va_recv hK hP (ci := 0) (q0 := 1) rfl rfl)) rfl rfl hl.1 rfl (lv_room (Nat.le_of_ble_eq_true rfl)) dX11_holds_8 ⟨Nat.le_of_ble_eq_true rfl, Nat.le_of_ble_eq_true rfl⟩) hS (fun q _ h => hFc q h) hFc (fun ce q9 H1 locs hz1 hk1 hS hce hcv hcl => ?_)
  exact vx_out (fun x hx => (hno x hx).elim) hlocks hce hcv hcl (fun t ht ha => zX_at hS ht) hS.2.2 (Nat.le_of_ble_eq_true rfl) (Nat.le_of_ble_eq_true rfl)
