abbrev cX1_isStanding : ByteArray := prog_3_method_10_code
def yX1_isStanding : MethodName := ⟨"KindredBooks$Book", "isStanding", "(I)Z"⟩
theorem mw_680 : (Jvm.Cond.code ({ cls := "KindredBooks$Book", name := "isStanding", desc := "(I)Z" } : Jvm.MethodName) prog_3_method_10_code (2 : Nat) (Option.some Jvm.ClassFile.FieldType.boolean)) ∈ W0 := W0_of (List.mem_append_right _ (List.mem_of_getElem? (i := 680) (by decide +kernel))) rfl
theorem dX1_isStanding_0 : decode cX1_isStanding 0 = .ok (.iload_n 1, 1) := by decide +kernel
theorem dX1_isStanding_1 : decode cX1_isStanding 1 = .ok (.ifCond .lt 23, 3) := by decide +kernel
theorem dX1_isStanding_24 : decode cX1_isStanding 24 = .ok (.iconst 0, 1) := by decide +kernel
theorem dX1_isStanding_25 : decode cX1_isStanding 25 = .ok (.ireturn, 1) := by decide +kernel
theorem dX1_isStanding_4 : decode cX1_isStanding 4 = .ok (.iload_n 1, 1) := by decide +kernel
theorem dX1_isStanding_5 : decode cX1_isStanding 5 = .ok (.sipush 250, 3) := by decide +kernel
theorem dX1_isStanding_8 : decode cX1_isStanding 8 = .ok (.if_icmp .ge 16, 3) := by decide +kernel
theorem dX1_isStanding_11 : decode cX1_isStanding 11 = .ok (.aload_n 0, 1) := by decide +kernel
theorem dX1_isStanding_12 : decode cX1_isStanding 12 = .ok (.getfield 18, 3) := by decide +kernel
theorem mw_272 : (Jvm.Cond.fieldLink "KindredBooks$Book" (18 : Nat) "KindredBooks$Book" "standing" "[Z") ∈ W0 := W0_of (List.mem_append_right _ (List.mem_of_getElem? (i := 272) (by decide +kernel))) rfl
theorem dX1_isStanding_15 : decode cX1_isStanding 15 = .ok (.iload_n 1, 1) := by decide +kernel
theorem dX1_isStanding_16 : decode cX1_isStanding 16 = .ok (.baload, 1) := by decide +kernel
theorem dX1_isStanding_17 : decode cX1_isStanding 17 = .ok (.ifCond .eq 7, 3) := by decide +kernel
abbrev cX1_isCounting : ByteArray := prog_3_method_9_code
def yX1_isCounting : MethodName := ⟨"KindredBooks$Book", "isCounting", "(I)Z"⟩
theorem mw_797 : (Jvm.Cond.code ({ cls := "KindredBooks$Book", name := "isCounting", desc := "(I)Z" } : Jvm.MethodName) prog_3_method_9_code (2 : Nat) (Option.some Jvm.ClassFile.FieldType.boolean)) ∈ W0 := W0_of (List.mem_append_right _ (List.mem_of_getElem? (i := 797) (by decide +kernel))) rfl
theorem dX1_isCounting_0 : decode cX1_isCounting 0 = .ok (.iload_n 1, 1) := by decide +kernel
theorem dX1_isCounting_1 : decode cX1_isCounting 1 = .ok (.ifCond .lt 23, 3) := by decide +kernel
theorem dX1_isCounting_24 : decode cX1_isCounting 24 = .ok (.iconst 0, 1) := by decide +kernel
theorem dX1_isCounting_25 : decode cX1_isCounting 25 = .ok (.ireturn, 1) := by decide +kernel
theorem dX1_isCounting_4 : decode cX1_isCounting 4 = .ok (.iload_n 1, 1) := by decide +kernel
theorem dX1_isCounting_5 : decode cX1_isCounting 5 = .ok (.sipush 250, 3) := by decide +kernel
theorem dX1_isCounting_8 : decode cX1_isCounting 8 = .ok (.if_icmp .ge 16, 3) := by decide +kernel
theorem dX1_isCounting_11 : decode cX1_isCounting 11 = .ok (.aload_n 0, 1) := by decide +kernel
theorem dX1_isCounting_12 : decode cX1_isCounting 12 = .ok (.getfield 15, 3) := by decide +kernel
theorem mw_271 : (Jvm.Cond.fieldLink "KindredBooks$Book" (15 : Nat) "KindredBooks$Book" "counting" "[Z") ∈ W0 := W0_of (List.mem_append_right _ (List.mem_of_getElem? (i := 271) (by decide +kernel))) rfl
theorem dX1_isCounting_15 : decode cX1_isCounting 15 = .ok (.iload_n 1, 1) := by decide +kernel
theorem dX1_isCounting_16 : decode cX1_isCounting 16 = .ok (.baload, 1) := by decide +kernel
theorem dX1_isCounting_17 : decode cX1_isCounting 17 = .ok (.ifCond .eq 7, 3) := by decide +kernel
abbrev cX1_isKnown : ByteArray := prog_3_method_8_code
def yX1_isKnown : MethodName := ⟨"KindredBooks$Book", "isKnown", "(I)Z"⟩
theorem mw_825 : (Jvm.Cond.code ({ cls := "KindredBooks$Book", name := "isKnown", desc := "(I)Z" } : Jvm.MethodName) prog_3_method_8_code (2 : Nat) (Option.some Jvm.ClassFile.FieldType.boolean)) ∈ W0 := W0_of (List.mem_append_right _ (List.mem_of_getElem? (i := 825) (by decide +kernel))) rfl
theorem dX1_isKnown_0 : decode cX1_isKnown 0 = .ok (.iload_n 1, 1) := by decide +kernel
theorem dX1_isKnown_1 : decode cX1_isKnown 1 = .ok (.ifCond .lt 23, 3) := by decide +kernel
theorem dX1_isKnown_24 : decode cX1_isKnown 24 = .ok (.iconst 0, 1) := by decide +kernel
theorem dX1_isKnown_25 : decode cX1_isKnown 25 = .ok (.ireturn, 1) := by decide +kernel
theorem dX1_isKnown_4 : decode cX1_isKnown 4 = .ok (.iload_n 1, 1) := by decide +kernel
theorem dX1_isKnown_5 : decode cX1_isKnown 5 = .ok (.sipush 250, 3) := by decide +kernel
theorem dX1_isKnown_8 : decode cX1_isKnown 8 = .ok (.if_icmp .ge 16, 3) := by decide +kernel
theorem dX1_isKnown_11 : decode cX1_isKnown 11 = .ok (.aload_n 0, 1) := by decide +kernel
theorem dX1_isKnown_12 : decode cX1_isKnown 12 = .ok (.getfield 9, 3) := by decide +kernel
theorem mw_270 : (Jvm.Cond.fieldLink "KindredBooks$Book" (9 : Nat) "KindredBooks$Book" "knows" "[Z") ∈ W0 := W0_of (List.mem_append_right _ (List.mem_of_getElem? (i := 270) (by decide +kernel))) rfl
theorem dX1_isKnown_15 : decode cX1_isKnown 15 = .ok (.iload_n 1, 1) := by decide +kernel
theorem dX1_isKnown_16 : decode cX1_isKnown 16 = .ok (.baload, 1) := by decide +kernel
theorem dX1_isKnown_17 : decode cX1_isKnown 17 = .ok (.ifCond .eq 7, 3) := by decide +kernel
abbrev cX6_at : ByteArray := prog_8_method_2_code
def yX6_at : MethodName := ⟨"KindredBooks$Ledger", "at", "(I)LKindredBooks$Change;"⟩
theorem mw_559 : (Jvm.Cond.code ({ cls := "KindredBooks$Ledger", name := "at", desc := "(I)LKindredBooks$Change;" } : Jvm.MethodName) prog_8_method_2_code (2 : Nat) (Option.some (Jvm.ClassFile.FieldType.object "KindredBooks$Change"))) ∈ W0 := W0_of (List.mem_append_right _ (List.mem_of_getElem? (i := 559) (by decide +kernel))) rfl
theorem dX6_at_0 : decode cX6_at 0 = .ok (.iload_n 1, 1) := by decide +kernel
theorem dX6_at_1 : decode cX6_at 1 = .ok (.ifCond .lt 20, 3) := by decide +kernel
theorem dX6_at_21 : decode cX6_at 21 = .ok (.aload_n 0, 1) := by decide +kernel
theorem dX6_at_22 : decode cX6_at 22 = .ok (.getfield 23, 3) := by decide +kernel
theorem mw_165 : (Jvm.Cond.fieldLink "KindredBooks$Ledger" (23 : Nat) "KindredBooks$Ledger" "nothing" "LKindredBooks$Change;") ∈ W0 := W0_of (List.mem_append_right _ (List.mem_of_getElem? (i := 165) (by decide +kernel))) rfl
theorem dX6_at_25 : decode cX6_at 25 = .ok (.areturn, 1) := by decide +kernel
theorem dX6_at_4 : decode cX6_at 4 = .ok (.iload_n 1, 1) := by decide +kernel
theorem dX6_at_5 : decode cX6_at 5 = .ok (.aload_n 0, 1) := by decide +kernel
theorem dX6_at_6 : decode cX6_at 6 = .ok (.getfield 31, 3) := by decide +kernel
theorem mw_168 : (Jvm.Cond.fieldLink "KindredBooks$Ledger" (31 : Nat) "KindredBooks$Ledger" "size" "I") ∈ W0 := W0_of (List.mem_append_right _ (List.mem_of_getElem? (i := 168) (by decide +kernel))) rfl
theorem dX6_at_9 : decode cX6_at 9 = .ok (.if_icmp .ge 12, 3) := by decide +kernel
abbrev cX1_isLive : ByteArray := prog_3_method_11_code
def yX1_isLive : MethodName := ⟨"KindredBooks$Book", "isLive", "(I)Z"⟩
theorem mw_676 : (Jvm.Cond.code ({ cls := "KindredBooks$Book", name := "isLive", desc := "(I)Z" } : Jvm.MethodName) prog_3_method_11_code (2 : Nat) (Option.some Jvm.ClassFile.FieldType.boolean)) ∈ W0 := W0_of (List.mem_append_right _ (List.mem_of_getElem? (i := 676) (by decide +kernel))) rfl
theorem dX1_isLive_0 : decode cX1_isLive 0 = .ok (.aload_n 0, 1) := by decide +kernel
theorem dX1_isLive_1 : decode cX1_isLive 1 = .ok (.iload_n 1, 1) := by decide +kernel
theorem dX1_isLive_2 : decode cX1_isLive 2 = .ok (.invokevirtual 88, 3) := by decide +kernel
theorem mw_677 : (Jvm.Cond.methodLink "KindredBooks$Book" (88 : Nat) ({ cls := "KindredBooks$Book", name := "isStanding", desc := "(I)Z" } : Jvm.MethodName)) ∈ W0 := W0_of (List.mem_append_right _ (List.mem_of_getElem? (i := 677) (by decide +kernel))) rfl
theorem mw_678 : (Jvm.Cond.instanceMethod ({ cls := "KindredBooks$Book", name := "isStanding", desc := "(I)Z" } : Jvm.MethodName)) ∈ W0 := W0_of (List.mem_append_right _ (List.mem_of_getElem? (i := 678) (by decide +kernel))) rfl
theorem mw_679 : (Jvm.Cond.selects "KindredBooks$Book" ({ cls := "KindredBooks$Book", name := "isStanding", desc := "(I)Z" } : Jvm.MethodName) ({ cls := "KindredBooks$Book", name := "isStanding", desc := "(I)Z" } : Jvm.MethodName)) ∈ W0 := W0_of (List.mem_append_right _ (List.mem_of_getElem? (i := 679) (by decide +kernel))) rfl
theorem mw_9 : (Jvm.Cond.initialized "KindredBooks$Book") ∈ W0 := W0_of (List.mem_append_right _ (List.mem_of_getElem? (i := 9) (by decide +kernel))) rfl
theorem dX1_isLive_5 : decode cX1_isLive 5 = .ok (.ifCond .eq 21, 3) := by decide +kernel
theorem dX1_isLive_26 : decode cX1_isLive 26 = .ok (.iconst 0, 1) := by decide +kernel
theorem dX1_isLive_27 : decode cX1_isLive 27 = .ok (.ireturn, 1) := by decide +kernel
abbrev cX11_checkLive : ByteArray := prog_1_method_54_code
def yX11_checkLive : MethodName := ⟨"KindredBooks", "checkLive", "(LKindredBooks$Book;I)V"⟩
theorem mw_698 : (Jvm.Cond.code ({ cls := "KindredBooks", name := "checkLive", desc := "(LKindredBooks$Book;I)V" } : Jvm.MethodName) prog_1_method_54_code (3 : Nat) (Option.none : Option Jvm.ClassFile.FieldType)) ∈ W0 := W0_of (List.mem_append_right _ (List.mem_of_getElem? (i := 698) (by decide +kernel))) rfl
theorem dX11_checkLive_0 : decode cX11_checkLive 0 = .ok (.aload_n 1, 1) := by decide +kernel
theorem dX11_checkLive_1 : decode cX11_checkLive 1 = .ok (.iload_n 2, 1) := by decide +kernel
theorem dX11_checkLive_2 : decode cX11_checkLive 2 = .ok (.invokevirtual 406, 3) := by decide +kernel
theorem mw_699 : (Jvm.Cond.methodLink "KindredBooks" (406 : Nat) ({ cls := "KindredBooks$Book", name := "isLive", desc := "(I)Z" } : Jvm.MethodName)) ∈ W0 := W0_of (List.mem_append_right _ (List.mem_of_getElem? (i := 699) (by decide +kernel))) rfl
theorem mw_674 : (Jvm.Cond.instanceMethod ({ cls := "KindredBooks$Book", name := "isLive", desc := "(I)Z" } : Jvm.MethodName)) ∈ W0 := W0_of (List.mem_append_right _ (List.mem_of_getElem? (i := 674) (by decide +kernel))) rfl
theorem mw_675 : (Jvm.Cond.selects "KindredBooks$Book" ({ cls := "KindredBooks$Book", name := "isLive", desc := "(I)Z" } : Jvm.MethodName) ({ cls := "KindredBooks$Book", name := "isLive", desc := "(I)Z" } : Jvm.MethodName)) ∈ W0 := W0_of (List.mem_append_right _ (List.mem_of_getElem? (i := 675) (by decide +kernel))) rfl
theorem dX11_checkLive_5 : decode cX11_checkLive 5 = .ok (.ifCond .ne 14, 3) := by decide +kernel
theorem dX11_checkLive_8 : decode cX11_checkLive 8 = .ok (.new 169, 3) := by decide +kernel
theorem dX11_checkLive_11 : decode cX11_checkLive 11 = .ok (.dup, 1) := by decide +kernel
theorem dX11_checkLive_12 : decode cX11_checkLive 12 = .ok (.ldc_w 409, 3) := by decide +kernel
theorem dX11_checkLive_15 : decode cX11_checkLive 15 = .ok (.invokespecial 173, 3) := by decide +kernel
theorem dX11_checkLive_18 : decode cX11_checkLive 18 = .ok (.athrow, 1) := by decide +kernel
theorem xat_KindredBooks_173_NoSuchElementException : ∀ w ∈ zn_at "KindredBooks" 173, w ∈ lw_tbl ∧ (goodWord w || isN w) = true := by decide +kernel
theorem mw_700 : (Jvm.Cond.classLink "KindredBooks" (169 : Nat) "java/util/NoSuchElementException") ∈ W0 := W0_of (List.mem_append_right _ (List.mem_of_getElem? (i := 700) (by decide +kernel))) rfl
theorem mw_38 : (Jvm.Cond.initialized "java/util/NoSuchElementException") ∈ W0 := W0_of (List.mem_append_right _ (List.mem_of_getElem? (i := 38) (by decide +kernel))) rfl
theorem xgd_KindredBooks_173_169 : ∀ w ∈ Cond.classLink "KindredBooks" 169 znX :: Cond.initialized znX :: zn_at "KindredBooks" 173, vx_ot w = true := by decide +kernel
abbrev cX11_checkChange : ByteArray := prog_1_method_51_code
def yX11_checkChange : MethodName := ⟨"KindredBooks", "checkChange", "(I)V"⟩
theorem mw_792 : (Jvm.Cond.code ({ cls := "KindredBooks", name := "checkChange", desc := "(I)V" } : Jvm.MethodName) prog_1_method_51_code (2 : Nat) (Option.none : Option Jvm.ClassFile.FieldType)) ∈ W0 := W0_of (List.mem_append_right _ (List.mem_of_getElem? (i := 792) (by decide +kernel))) rfl
theorem dX11_checkChange_0 : decode cX11_checkChange 0 = .ok (.iload_n 1, 1) := by decide +kernel
theorem dX11_checkChange_1 : decode cX11_checkChange 1 = .ok (.ifCond .lt 14, 3) := by decide +kernel
theorem dX11_checkChange_15 : decode cX11_checkChange 15 = .ok (.new 212, 3) := by decide +kernel
theorem dX11_checkChange_18 : decode cX11_checkChange 18 = .ok (.dup, 1) := by decide +kernel
theorem dX11_checkChange_19 : decode cX11_checkChange 19 = .ok (.ldc_w 400, 3) := by decide +kernel
theorem dX11_checkChange_22 : decode cX11_checkChange 22 = .ok (.invokespecial 216, 3) := by decide +kernel
theorem dX11_checkChange_25 : decode cX11_checkChange 25 = .ok (.athrow, 1) := by decide +kernel
theorem dX11_checkChange_4 : decode cX11_checkChange 4 = .ok (.iload_n 1, 1) := by decide +kernel
theorem dX11_checkChange_5 : decode cX11_checkChange 5 = .ok (.aload_n 0, 1) := by decide +kernel
theorem dX11_checkChange_6 : decode cX11_checkChange 6 = .ok (.getfield 27, 3) := by decide +kernel
theorem dX11_checkChange_9 : decode cX11_checkChange 9 = .ok (.getfield 103, 3) := by decide +kernel
theorem dX11_checkChange_12 : decode cX11_checkChange 12 = .ok (.if_icmp .lt 14, 3) := by decide +kernel
abbrev cX11_rowOf : ByteArray := prog_1_method_55_code
def yX11_rowOf : MethodName := ⟨"KindredBooks", "rowOf", "(LKindredBooks$Answers;I)J"⟩
theorem mw_1200 : (Jvm.Cond.code ({ cls := "KindredBooks", name := "rowOf", desc := "(LKindredBooks$Answers;I)J" } : Jvm.MethodName) prog_1_method_55_code (3 : Nat) (Option.some Jvm.ClassFile.FieldType.long)) ∈ W0 := W0_of (List.mem_append_right _ (List.mem_of_getElem? (i := 1200) (by decide +kernel))) rfl
theorem dX11_rowOf_0 : decode cX11_rowOf 0 = .ok (.iload_n 2, 1) := by decide +kernel
theorem dX11_rowOf_1 : decode cX11_rowOf 1 = .ok (.ifCond .lt 11, 3) := by decide +kernel
theorem dX11_rowOf_12 : decode cX11_rowOf 12 = .ok (.new 212, 3) := by decide +kernel
theorem dX11_rowOf_15 : decode cX11_rowOf 15 = .ok (.dup, 1) := by decide +kernel
theorem dX11_rowOf_16 : decode cX11_rowOf 16 = .ok (.ldc_w 411, 3) := by decide +kernel
theorem dX11_rowOf_19 : decode cX11_rowOf 19 = .ok (.invokespecial 216, 3) := by decide +kernel
theorem dX11_rowOf_22 : decode cX11_rowOf 22 = .ok (.athrow, 1) := by decide +kernel
theorem dX11_rowOf_4 : decode cX11_rowOf 4 = .ok (.iload_n 2, 1) := by decide +kernel
theorem dX11_rowOf_5 : decode cX11_rowOf 5 = .ok (.aload_n 1, 1) := by decide +kernel
theorem dX11_rowOf_6 : decode cX11_rowOf 6 = .ok (.getfield 279, 3) := by decide +kernel
theorem mn_255 : (Jvm.Cond.fieldLinkNest "KindredBooks" (279 : Nat) "KindredBooks$Answers" "size" "I" "KindredBooks") ∈ N0 := N0_of (List.mem_append_right _ (List.mem_of_getElem? (i := 255) (by decide +kernel))) rfl
theorem dX11_rowOf_9 : decode cX11_rowOf 9 = .ok (.if_icmp .lt 14, 3) := by decide +kernel
theorem z_inc (i : Nat) : nI i + Int32.ofInt 1 = nI (i + 1) := by rw [show Int32.ofInt 1 = 1 from by decide]; exact nI_1 i
theorem z_clt {N i : Nat} {M : Int32} (hM : M = nI N) (hN : i < 2 ^ 31) (h : ¬ M ≤ nI i) : i < N := by
  rcases Nat.lt_or_ge i N with q | q
  · exact q
  · exact absurd (by rw [hM]; exact nI_le q hN) h
theorem z_cge {N i : Nat} {M : Int32} (hM : M = nI N) (hN : N < 2 ^ 31) (hi : i ≤ N) (h : M ≤ nI i) : i = N := by
  rcases Nat.lt_or_ge i N with q | q
  · exact absurd (by rw [hM] at h; exact h) (nI_ge q hN)
  · omega
theorem z_in {y : Int32} {N : Nat} {M : Int32} (hM : M.toInt = (N : Int)) (h1 : ¬ y < 0) (h2 : ¬ M ≤ y) : vp_in y N := by
  rw [vp_in_iff]
  have a1 := Int32.le_iff_toInt_le.mp (Int32.not_lt.mp h1)
  have a2 := Int32.lt_iff_toInt_lt.mp (Int32.not_le.mp h2)
  rw [hM] at a2
  exact ⟨by simpa using a1, a2⟩
set_option maxHeartbeats 4000000 in
set_option maxRecDepth 100000 in
/-- isStanding(y) of a fresh book: false -/
theorem c_isStanding0 (l : Launch) (D : va_G) (dA : Nat → ClassId) (dZ : Nat → Nat) (sz : Nat) (bk : Nat) (xl : Nat) (b1 : Nat) (b2 : Nat) (b3 : Nat) (b4 : Nat) (hd : Int32) (vr : Int32) (y : Int32) : Met l yX1_isStanding (wz yX1_isStanding cX1_isStanding 2 (some .boolean)) ({ frames := 0, cells := 0, slots := 0, locals := 0 } : Room) (va_Pc [.ref bk, .int y] (zP D dA dZ [(bk, .inr (5, [.int hd, .ref xl, .ref b1, .ref b2, .ref b3, .ref b4, .int 0, .int 0, .int vr])), (b3, .inl (dA 1, 250, .inl (fun _ => 0)))] sz)) (va_Qi (fun (r : Int32) (_ : Unit) => r = 0) (fun _ => zB D (va_A [(bk, .inr (5, [.int hd, .ref xl, .ref b1, .ref b2, .ref b3, .ref b4, .int 0, .int 0, .int vr])), (b3, .inl (dA 1, 250, .inl (fun _ => 0)))] sz) [(bk, .inr (5, [.int hd, .ref xl, .ref b1, .ref b2, .ref b3, .ref b4, .int 0, .int 0, .int vr])), (b3, .inl (dA 1, 250, .inl (fun _ => 0)))]) (va_A [(bk, .inr (5, [.int hd, .ref xl, .ref b1, .ref b2, .ref b3, .ref b4, .int 0, .int 0, .int vr])), (b3, .inl (dA 1, 250, .inl (fun _ => 0)))] sz)) 0 0 (va_A [(bk, .inr (5, [.int hd, .ref xl, .ref b1, .ref b2, .ref b3, .ref b4, .int 0, .int 0, .int vr])), (b3, .inl (dA 1, 250, .inl (fun _ => 0)))] sz) := by
  refine Met.ofW (cc := cX1_isStanding) (maxL := 2) (ret := (some .boolean)) (by decide) rfl ?_
  intro p e s m args below meth c s₁ B hml hv
  obtain ⟨rfl, hsz, hP, hK, hD0, hT, hE⟩ := hv
  have hx := B.exec
  have hb := B.bytes
  have hr := B.returns
  have hw := wz_hw (atoms_spec (ws := wz yX1_isStanding cX1_isStanding 2 (some .boolean)) B.pre)
  have hown : s.vm.findClass "KindredBooks$Book" = some m.cls := findClass_of_methodNamed B.named
  have hlocks := B.notSynchronized
  have hn := hT.1.use (args := ([.ref bk, .int y] : List Value).toArray)
  subst hsz
  have hD := hD0.self (sz := s.heap.size)
  generalize hAe : va_A [(bk, .inr (5, [.int hd, .ref xl, .ref b1, .ref b2, .ref b3, .ref b4, .int 0, .int 0, .int vr])), (b3, .inl (dA 1, 250, .inl (fun _ => 0)))] s.heap.size = A at hD hE ⊢
  have hA : ∀ q : Nat, s.heap.size ≤ q → A q := fun q h => by rw [← hAe]; exact Or.inr h
  have hS : va_S A s.heap s.heap [] := va_S.rf
  replace hP : va_P D zcl [(bk, .inr (5, [.int hd, .ref xl, .ref b1, .ref b2, .ref b3, .ref b4, .int 0, .int 0, .int vr])), (b3, .inl (dA 1, 250, .inl (fun _ => 0)))] s.heap := hP
  have hl := lv_entry ([.ref bk, .int y]) (n := 2) (Nat.le_of_ble_eq_true rfl)
  rw [lg_entry_eq]
  generalize (lg_sl ([.ref bk, .int y]) ++ List.replicate (2 - (lg_sl ([.ref bk, .int y])).length) Slot.unset).toArray = ls at hl ⊢
  replace hl : lv_has ls 2 [(0, .ref bk), (1, .int y)] := hl
  refine lv_iload_n hx hb dX1_isStanding_0 rfl (lv_at hl 1 rfl) ?_
  refine lv_if_lt (tgt := 24) hx hb dX1_isStanding_1 (by decide) (fun c1 => ?_) (fun c1 => ?_)
  · refine lv_iconst (v := 0) hx hb dX1_isStanding_24 (by decide) ?_
    have hP9 := hP.sub (ws' := [(bk, .inr (5, [.int hd, .ref xl, .ref b1, .ref b2, .ref b3, .ref b4, .int 0, .int 0, .int vr])), (b3, .inl (dA 1, 250, .inl (fun _ => 0)))]) [0, 1] rfl
    have hD9 := hD.sub (ws' := [(bk, .inr (5, [.int hd, .ref xl, .ref b1, .ref b2, .ref b3, .ref b4, .int 0, .int 0, .int vr])), (b3, .inl (dA 1, 250, .inl (fun _ => 0)))]) [0, 1] (by decide) rfl
    exact W.zret (v := 0) hx hb hr rfl (fun t ht hW => ⟨⟨0, (), rfl, rfl, by rw [ht]; exact hP9, hD9⟩, hS.F ht⟩) hS.2.2 dX1_isStanding_25
  · refine lv_iload_n hx hb dX1_isStanding_4 rfl (lv_at hl 1 rfl) ?_
    refine lv_sipush (v := 250) hx hb dX1_isStanding_5 (by decide) ?_
    refine lv_icmp_ge (tgt := 24) hx hb dX1_isStanding_8 (by decide) (fun c2 => ?_) (fun c2 => ?_)
    · refine lv_iconst (v := 0) hx hb dX1_isStanding_24 (by decide) ?_
      have hP9 := hP.sub (ws' := [(bk, .inr (5, [.int hd, .ref xl, .ref b1, .ref b2, .ref b3, .ref b4, .int 0, .int 0, .int vr])), (b3, .inl (dA 1, 250, .inl (fun _ => 0)))]) [0, 1] rfl
      have hD9 := hD.sub (ws' := [(bk, .inr (5, [.int hd, .ref xl, .ref b1, .ref b2, .ref b3, .ref b4, .int 0, .int 0, .int vr])), (b3, .inl (dA 1, 250, .inl (fun _ => 0)))]) [0, 1] (by decide) rfl
      exact W.zret (v := 0) hx hb hr rfl (fun t ht hW => ⟨⟨0, (), rfl, rfl, by rw [ht]; exact hP9, hD9⟩, hS.F ht⟩) hS.2.2 dX1_isStanding_25
    · refine lv_aload_n hx hb dX1_isStanding_11 rfl (lv_at hl 0 rfl) ?_
      refine va_get (D := D) (ci := 5) (v := .ref b3) (C := "KindredBooks$Book") (T := T_zk5) (N := 9) hx hb hw in_zk5 hown hK hP 0 rfl rfl 4 (by decide) (hw _ mw_272) (fun _ h9 => h9) rfl dX1_isStanding_12 ?_
      refine lv_iload_n hx hb dX1_isStanding_15 rfl (lv_at hl 1 rfl) ?_
      refine va_zald hx hb hK hP 1 1 rfl rfl (z_in (by decide) c1 c2) dX1_isStanding_16 ?_
      refine lv_topi (fun v_1 ev_1 => ?_)
      obtain rfl : v_1 = 0 := ev_1.trans rfl
      refine lv_if_eq (tgt := 24) hx hb dX1_isStanding_17 (by decide) (fun _ => ?_) (fun zc => absurd (by decide) zc)
      refine lv_iconst (v := 0) hx hb dX1_isStanding_24 (by decide) ?_
      have hP9 := hP.sub (ws' := [(bk, .inr (5, [.int hd, .ref xl, .ref b1, .ref b2, .ref b3, .ref b4, .int 0, .int 0, .int vr])), (b3, .inl (dA 1, 250, .inl (fun _ => 0)))]) [0, 1] rfl
      have hD9 := hD.sub (ws' := [(bk, .inr (5, [.int hd, .ref xl, .ref b1, .ref b2, .ref b3, .ref b4, .int 0, .int 0, .int vr])), (b3, .inl (dA 1, 250, .inl (fun _ => 0)))]) [0, 1] (by decide) rfl
      exact W.zret (v := 0) hx hb hr rfl (fun t ht hW => ⟨⟨0, (), rfl, rfl, by rw [ht]; exact hP9, hD9⟩, hS.F ht⟩) hS.2.2 dX1_isStanding_25
set_option maxHeartbeats 4000000 in
set_option maxRecDepth 100000 in
/-- isCounting(y) of a fresh book: false -/
theorem c_isCounting0 (l : Launch) (D : va_G) (dA : Nat → ClassId) (dZ : Nat → Nat) (sz : Nat) (bk : Nat) (xl : Nat) (b1 : Nat) (b2 : Nat) (b3 : Nat) (b4 : Nat) (hd : Int32) (vr : Int32) (y : Int32) : Met l yX1_isCounting (wz yX1_isCounting cX1_isCounting 2 (some .boolean)) ({ frames := 0, cells := 0, slots := 0, locals := 0 } : Room) (va_Pc [.ref bk, .int y] (zP D dA dZ [(bk, .inr (5, [.int hd, .ref xl, .ref b1, .ref b2, .ref b3, .ref b4, .int 0, .int 0, .int vr])), (b2, .inl (dA 1, 250, .inl (fun _ => 0)))] sz)) (va_Qi (fun (r : Int32) (_ : Unit) => r = 0) (fun _ => zB D (va_A [(bk, .inr (5, [.int hd, .ref xl, .ref b1, .ref b2, .ref b3, .ref b4, .int 0, .int 0, .int vr])), (b2, .inl (dA 1, 250, .inl (fun _ => 0)))] sz) [(bk, .inr (5, [.int hd, .ref xl, .ref b1, .ref b2, .ref b3, .ref b4, .int 0, .int 0, .int vr])), (b2, .inl (dA 1, 250, .inl (fun _ => 0)))]) (va_A [(bk, .inr (5, [.int hd, .ref xl, .ref b1, .ref b2, .ref b3, .ref b4, .int 0, .int 0, .int vr])), (b2, .inl (dA 1, 250, .inl (fun _ => 0)))] sz)) 0 0 (va_A [(bk, .inr (5, [.int hd, .ref xl, .ref b1, .ref b2, .ref b3, .ref b4, .int 0, .int 0, .int vr])), (b2, .inl (dA 1, 250, .inl (fun _ => 0)))] sz) := by
  refine Met.ofW (cc := cX1_isCounting) (maxL := 2) (ret := (some .boolean)) (by decide) rfl ?_
  intro p e s m args below meth c s₁ B hml hv
  obtain ⟨rfl, hsz, hP, hK, hD0, hT, hE⟩ := hv
  have hx := B.exec
  have hb := B.bytes
  have hr := B.returns
  have hw := wz_hw (atoms_spec (ws := wz yX1_isCounting cX1_isCounting 2 (some .boolean)) B.pre)
  have hown : s.vm.findClass "KindredBooks$Book" = some m.cls := findClass_of_methodNamed B.named
  have hlocks := B.notSynchronized
  have hn := hT.1.use (args := ([.ref bk, .int y] : List Value).toArray)
  subst hsz
  have hD := hD0.self (sz := s.heap.size)
  generalize hAe : va_A [(bk, .inr (5, [.int hd, .ref xl, .ref b1, .ref b2, .ref b3, .ref b4, .int 0, .int 0, .int vr])), (b2, .inl (dA 1, 250, .inl (fun _ => 0)))] s.heap.size = A at hD hE ⊢
  have hA : ∀ q : Nat, s.heap.size ≤ q → A q := fun q h => by rw [← hAe]; exact Or.inr h
  have hS : va_S A s.heap s.heap [] := va_S.rf
  replace hP : va_P D zcl [(bk, .inr (5, [.int hd, .ref xl, .ref b1, .ref b2, .ref b3, .ref b4, .int 0, .int 0, .int vr])), (b2, .inl (dA 1, 250, .inl (fun _ => 0)))] s.heap := hP
  have hl := lv_entry ([.ref bk, .int y]) (n := 2) (Nat.le_of_ble_eq_true rfl)
  rw [lg_entry_eq]
  generalize (lg_sl ([.ref bk, .int y]) ++ List.replicate (2 - (lg_sl ([.ref bk, .int y])).length) Slot.unset).toArray = ls at hl ⊢
  replace hl : lv_has ls 2 [(0, .ref bk), (1, .int y)] := hl
  refine lv_iload_n hx hb dX1_isCounting_0 rfl (lv_at hl 1 rfl) ?_
  refine lv_if_lt (tgt := 24) hx hb dX1_isCounting_1 (by decide) (fun c1 => ?_) (fun c1 => ?_)
  · refine lv_iconst (v := 0) hx hb dX1_isCounting_24 (by decide) ?_
    have hP9 := hP.sub (ws' := [(bk, .inr (5, [.int hd, .ref xl, .ref b1, .ref b2, .ref b3, .ref b4, .int 0, .int 0, .int vr])), (b2, .inl (dA 1, 250, .inl (fun _ => 0)))]) [0, 1] rfl
    have hD9 := hD.sub (ws' := [(bk, .inr (5, [.int hd, .ref xl, .ref b1, .ref b2, .ref b3, .ref b4, .int 0, .int 0, .int vr])), (b2, .inl (dA 1, 250, .inl (fun _ => 0)))]) [0, 1] (by decide) rfl
    exact W.zret (v := 0) hx hb hr rfl (fun t ht hW => ⟨⟨0, (), rfl, rfl, by rw [ht]; exact hP9, hD9⟩, hS.F ht⟩) hS.2.2 dX1_isCounting_25
  · refine lv_iload_n hx hb dX1_isCounting_4 rfl (lv_at hl 1 rfl) ?_
    refine lv_sipush (v := 250) hx hb dX1_isCounting_5 (by decide) ?_
    refine lv_icmp_ge (tgt := 24) hx hb dX1_isCounting_8 (by decide) (fun c2 => ?_) (fun c2 => ?_)
    · refine lv_iconst (v := 0) hx hb dX1_isCounting_24 (by decide) ?_
      have hP9 := hP.sub (ws' := [(bk, .inr (5, [.int hd, .ref xl, .ref b1, .ref b2, .ref b3, .ref b4, .int 0, .int 0, .int vr])), (b2, .inl (dA 1, 250, .inl (fun _ => 0)))]) [0, 1] rfl
      have hD9 := hD.sub (ws' := [(bk, .inr (5, [.int hd, .ref xl, .ref b1, .ref b2, .ref b3, .ref b4, .int 0, .int 0, .int vr])), (b2, .inl (dA 1, 250, .inl (fun _ => 0)))]) [0, 1] (by decide) rfl
      exact W.zret (v := 0) hx hb hr rfl (fun t ht hW => ⟨⟨0, (), rfl, rfl, by rw [ht]; exact hP9, hD9⟩, hS.F ht⟩) hS.2.2 dX1_isCounting_25
    · refine lv_aload_n hx hb dX1_isCounting_11 rfl (lv_at hl 0 rfl) ?_
      refine va_get (D := D) (ci := 5) (v := .ref b2) (C := "KindredBooks$Book") (T := T_zk5) (N := 9) hx hb hw in_zk5 hown hK hP 0 rfl rfl 3 (by decide) (hw _ mw_271) (fun _ h9 => h9) rfl dX1_isCounting_12 ?_
      refine lv_iload_n hx hb dX1_isCounting_15 rfl (lv_at hl 1 rfl) ?_
      refine va_zald hx hb hK hP 1 1 rfl rfl (z_in (by decide) c1 c2) dX1_isCounting_16 ?_
      refine lv_topi (fun v_1 ev_1 => ?_)
      obtain rfl : v_1 = 0 := ev_1.trans rfl
      refine lv_if_eq (tgt := 24) hx hb dX1_isCounting_17 (by decide) (fun _ => ?_) (fun zc => absurd (by decide) zc)
      refine lv_iconst (v := 0) hx hb dX1_isCounting_24 (by decide) ?_
      have hP9 := hP.sub (ws' := [(bk, .inr (5, [.int hd, .ref xl, .ref b1, .ref b2, .ref b3, .ref b4, .int 0, .int 0, .int vr])), (b2, .inl (dA 1, 250, .inl (fun _ => 0)))]) [0, 1] rfl
      have hD9 := hD.sub (ws' := [(bk, .inr (5, [.int hd, .ref xl, .ref b1, .ref b2, .ref b3, .ref b4, .int 0, .int 0, .int vr])), (b2, .inl (dA 1, 250, .inl (fun _ => 0)))]) [0, 1] (by decide) rfl
      exact W.zret (v := 0) hx hb hr rfl (fun t ht hW => ⟨⟨0, (), rfl, rfl, by rw [ht]; exact hP9, hD9⟩, hS.F ht⟩) hS.2.2 dX1_isCounting_25
set_option maxHeartbeats 4000000 in
set_option maxRecDepth 100000 in
/-- isKnown(y) of a fresh book: false -/
theorem c_isKnown0 (l : Launch) (D : va_G) (dA : Nat → ClassId) (dZ : Nat → Nat) (sz : Nat) (bk : Nat) (xl : Nat) (b1 : Nat) (b2 : Nat) (b3 : Nat) (b4 : Nat) (hd : Int32) (vr : Int32) (y : Int32) : Met l yX1_isKnown (wz yX1_isKnown cX1_isKnown 2 (some .boolean)) ({ frames := 0, cells := 0, slots := 0, locals := 0 } : Room) (va_Pc [.ref bk, .int y] (zP D dA dZ [(bk, .inr (5, [.int hd, .ref xl, .ref b1, .ref b2, .ref b3, .ref b4, .int 0, .int 0, .int vr])), (b1, .inl (dA 1, 250, .inl (fun _ => 0)))] sz)) (va_Qi (fun (r : Int32) (_ : Unit) => r = 0) (fun _ => zB D (va_A [(bk, .inr (5, [.int hd, .ref xl, .ref b1, .ref b2, .ref b3, .ref b4, .int 0, .int 0, .int vr])), (b1, .inl (dA 1, 250, .inl (fun _ => 0)))] sz) [(bk, .inr (5, [.int hd, .ref xl, .ref b1, .ref b2, .ref b3, .ref b4, .int 0, .int 0, .int vr])), (b1, .inl (dA 1, 250, .inl (fun _ => 0)))]) (va_A [(bk, .inr (5, [.int hd, .ref xl, .ref b1, .ref b2, .ref b3, .ref b4, .int 0, .int 0, .int vr])), (b1, .inl (dA 1, 250, .inl (fun _ => 0)))] sz)) 0 0 (va_A [(bk, .inr (5, [.int hd, .ref xl, .ref b1, .ref b2, .ref b3, .ref b4, .int 0, .int 0, .int vr])), (b1, .inl (dA 1, 250, .inl (fun _ => 0)))] sz) := by
  refine Met.ofW (cc := cX1_isKnown) (maxL := 2) (ret := (some .boolean)) (by decide) rfl ?_
  intro p e s m args below meth c s₁ B hml hv
  obtain ⟨rfl, hsz, hP, hK, hD0, hT, hE⟩ := hv
  have hx := B.exec
  have hb := B.bytes
  have hr := B.returns
  have hw := wz_hw (atoms_spec (ws := wz yX1_isKnown cX1_isKnown 2 (some .boolean)) B.pre)
  have hown : s.vm.findClass "KindredBooks$Book" = some m.cls := findClass_of_methodNamed B.named
  have hlocks := B.notSynchronized
  have hn := hT.1.use (args := ([.ref bk, .int y] : List Value).toArray)
  subst hsz
  have hD := hD0.self (sz := s.heap.size)
  generalize hAe : va_A [(bk, .inr (5, [.int hd, .ref xl, .ref b1, .ref b2, .ref b3, .ref b4, .int 0, .int 0, .int vr])), (b1, .inl (dA 1, 250, .inl (fun _ => 0)))] s.heap.size = A at hD hE ⊢
  have hA : ∀ q : Nat, s.heap.size ≤ q → A q := fun q h => by rw [← hAe]; exact Or.inr h
  have hS : va_S A s.heap s.heap [] := va_S.rf
  replace hP : va_P D zcl [(bk, .inr (5, [.int hd, .ref xl, .ref b1, .ref b2, .ref b3, .ref b4, .int 0, .int 0, .int vr])), (b1, .inl (dA 1, 250, .inl (fun _ => 0)))] s.heap := hP
  have hl := lv_entry ([.ref bk, .int y]) (n := 2) (Nat.le_of_ble_eq_true rfl)
  rw [lg_entry_eq]
  generalize (lg_sl ([.ref bk, .int y]) ++ List.replicate (2 - (lg_sl ([.ref bk, .int y])).length) Slot.unset).toArray = ls at hl ⊢
  replace hl : lv_has ls 2 [(0, .ref bk), (1, .int y)] := hl
  refine lv_iload_n hx hb dX1_isKnown_0 rfl (lv_at hl 1 rfl) ?_
  refine lv_if_lt (tgt := 24) hx hb dX1_isKnown_1 (by decide) (fun c1 => ?_) (fun c1 => ?_)
  · refine lv_iconst (v := 0) hx hb dX1_isKnown_24 (by decide) ?_
    have hP9 := hP.sub (ws' := [(bk, .inr (5, [.int hd, .ref xl, .ref b1, .ref b2, .ref b3, .ref b4, .int 0, .int 0, .int vr])), (b1, .inl (dA 1, 250, .inl (fun _ => 0)))]) [0, 1] rfl
    have hD9 := hD.sub (ws' := [(bk, .inr (5, [.int hd, .ref xl, .ref b1, .ref b2, .ref b3, .ref b4, .int 0, .int 0, .int vr])), (b1, .inl (dA 1, 250, .inl (fun _ => 0)))]) [0, 1] (by decide) rfl
    exact W.zret (v := 0) hx hb hr rfl (fun t ht hW => ⟨⟨0, (), rfl, rfl, by rw [ht]; exact hP9, hD9⟩, hS.F ht⟩) hS.2.2 dX1_isKnown_25
  · refine lv_iload_n hx hb dX1_isKnown_4 rfl (lv_at hl 1 rfl) ?_
    refine lv_sipush (v := 250) hx hb dX1_isKnown_5 (by decide) ?_
    refine lv_icmp_ge (tgt := 24) hx hb dX1_isKnown_8 (by decide) (fun c2 => ?_) (fun c2 => ?_)
    · refine lv_iconst (v := 0) hx hb dX1_isKnown_24 (by decide) ?_
      have hP9 := hP.sub (ws' := [(bk, .inr (5, [.int hd, .ref xl, .ref b1, .ref b2, .ref b3, .ref b4, .int 0, .int 0, .int vr])), (b1, .inl (dA 1, 250, .inl (fun _ => 0)))]) [0, 1] rfl
      have hD9 := hD.sub (ws' := [(bk, .inr (5, [.int hd, .ref xl, .ref b1, .ref b2, .ref b3, .ref b4, .int 0, .int 0, .int vr])), (b1, .inl (dA 1, 250, .inl (fun _ => 0)))]) [0, 1] (by decide) rfl
      exact W.zret (v := 0) hx hb hr rfl (fun t ht hW => ⟨⟨0, (), rfl, rfl, by rw [ht]; exact hP9, hD9⟩, hS.F ht⟩) hS.2.2 dX1_isKnown_25
    · refine lv_aload_n hx hb dX1_isKnown_11 rfl (lv_at hl 0 rfl) ?_
      refine va_get (D := D) (ci := 5) (v := .ref b1) (C := "KindredBooks$Book") (T := T_zk5) (N := 9) hx hb hw in_zk5 hown hK hP 0 rfl rfl 2 (by decide) (hw _ mw_270) (fun _ h9 => h9) rfl dX1_isKnown_12 ?_
      refine lv_iload_n hx hb dX1_isKnown_15 rfl (lv_at hl 1 rfl) ?_
      refine va_zald hx hb hK hP 1 1 rfl rfl (z_in (by decide) c1 c2) dX1_isKnown_16 ?_
      refine lv_topi (fun v_1 ev_1 => ?_)
      obtain rfl : v_1 = 0 := ev_1.trans rfl
      refine lv_if_eq (tgt := 24) hx hb dX1_isKnown_17 (by decide) (fun _ => ?_) (fun zc => absurd (by decide) zc)
      refine lv_iconst (v := 0) hx hb dX1_isKnown_24 (by decide) ?_
      have hP9 := hP.sub (ws' := [(bk, .inr (5, [.int hd, .ref xl, .ref b1, .ref b2, .ref b3, .ref b4, .int 0, .int 0, .int vr])), (b1, .inl (dA 1, 250, .inl (fun _ => 0)))]) [0, 1] rfl
      have hD9 := hD.sub (ws' := [(bk, .inr (5, [.int hd, .ref xl, .ref b1, .ref b2, .ref b3, .ref b4, .int 0, .int 0, .int vr])), (b1, .inl (dA 1, 250, .inl (fun _ => 0)))]) [0, 1] (by decide) rfl
      exact W.zret (v := 0) hx hb hr rfl (fun t ht hW => ⟨⟨0, (), rfl, rfl, by rw [ht]; exact hP9, hD9⟩, hS.F ht⟩) hS.2.2 dX1_isKnown_25
set_option maxHeartbeats 4000000 in
set_option maxRecDepth 100000 in
/-- Ledger.at of an empty ledger: nothing -/
theorem c_Ledger_at0 (l : Launch) (D : va_G) (dA : Nat → ClassId) (dZ : Nat → Nat) (sz : Nat) (xl : Nat) (bl : Nat) (no : Nat) (ro : Nat) (y : Int32) : Met l yX6_at (wz yX6_at cX6_at 2 (some (.object "KindredBooks$Change"))) ({ frames := 0, cells := 0, slots := 0, locals := 0 } : Room) (va_Pc [.ref xl, .int y] (zP D dA dZ [(xl, .inr (2, [.ref bl, .ref no, .ref ro, .int 0]))] sz)) (va_Qq (fun (r : Option Nat) (_ : Unit) => r = (some no)) (fun _ => zB D (va_A [(xl, .inr (2, [.ref bl, .ref no, .ref ro, .int 0]))] sz) [(xl, .inr (2, [.ref bl, .ref no, .ref ro, .int 0]))]) (va_A [(xl, .inr (2, [.ref bl, .ref no, .ref ro, .int 0]))] sz)) 0 0 (va_A [(xl, .inr (2, [.ref bl, .ref no, .ref ro, .int 0]))] sz) := by
  refine Met.ofW (cc := cX6_at) (maxL := 2) (ret := (some (.object "KindredBooks$Change"))) (by decide) rfl ?_
  intro p e s m args below meth c s₁ B hml hv
  obtain ⟨rfl, hsz, hP, hK, hD0, hT, hE⟩ := hv
  have hx := B.exec
  have hb := B.bytes
  have hr := B.returns
  have hw := wz_hw (atoms_spec (ws := wz yX6_at cX6_at 2 (some (.object "KindredBooks$Change"))) B.pre)
  have hown : s.vm.findClass "KindredBooks$Ledger" = some m.cls := findClass_of_methodNamed B.named
  have hlocks := B.notSynchronized
  have hn := hT.1.use (args := ([.ref xl, .int y] : List Value).toArray)
  subst hsz
  have hD := hD0.self (sz := s.heap.size)
  generalize hAe : va_A [(xl, .inr (2, [.ref bl, .ref no, .ref ro, .int 0]))] s.heap.size = A at hD hE ⊢
  have hA : ∀ q : Nat, s.heap.size ≤ q → A q := fun q h => by rw [← hAe]; exact Or.inr h
  have hS : va_S A s.heap s.heap [] := va_S.rf
  replace hP : va_P D zcl [(xl, .inr (2, [.ref bl, .ref no, .ref ro, .int 0]))] s.heap := hP
  have hl := lv_entry ([.ref xl, .int y]) (n := 2) (Nat.le_of_ble_eq_true rfl)
  rw [lg_entry_eq]
  generalize (lg_sl ([.ref xl, .int y]) ++ List.replicate (2 - (lg_sl ([.ref xl, .int y])).length) Slot.unset).toArray = ls at hl ⊢
  replace hl : lv_has ls 2 [(0, .ref xl), (1, .int y)] := hl
  refine lv_iload_n hx hb dX6_at_0 rfl (lv_at hl 1 rfl) ?_
  refine lv_if_lt (tgt := 21) hx hb dX6_at_1 (by decide) (fun c1 => ?_) (fun c1 => ?_)
  · refine lv_aload_n hx hb dX6_at_21 rfl (lv_at hl 0 rfl) ?_
    refine va_get (D := D) (ci := 2) (v := .ref no) (C := "KindredBooks$Ledger") (T := T_zk2) (N := 4) hx hb hw in_zk2 hown hK hP 0 rfl rfl 1 (by decide) (hw _ mw_165) (fun _ h9 => h9) rfl dX6_at_22 ?_
    have hP9 := hP.sub (ws' := [(xl, .inr (2, [.ref bl, .ref no, .ref ro, .int 0]))]) [0] rfl
    have hD9 := hD.sub (ws' := [(xl, .inr (2, [.ref bl, .ref no, .ref ro, .int 0]))]) [0] (by decide) rfl
    exact W.aret (v := .ref no) hx hb hr (Or.inl ⟨_, rfl⟩) (Or.inr ⟨_, rfl⟩) (fun t ht hW => ⟨⟨(some no), (), rfl, rfl, by rw [ht]; exact hP9, hD9⟩, hS.F ht⟩) hS.2.2 dX6_at_25
  · refine lv_iload_n hx hb dX6_at_4 rfl (lv_at hl 1 rfl) ?_
    refine lv_aload_n hx hb dX6_at_5 rfl (lv_at hl 0 rfl) ?_
    refine va_get (D := D) (ci := 2) (v := .int 0) (C := "KindredBooks$Ledger") (T := T_zk2) (N := 4) hx hb hw in_zk2 hown hK hP 0 rfl rfl 3 (by decide) (hw _ mw_168) (fun _ h9 => h9) rfl dX6_at_6 ?_
    refine lv_icmp_ge (tgt := 21) hx hb dX6_at_9 (by decide) (fun _ => ?_) (fun zc => absurd (Int32.not_lt.mp c1) zc)
    refine lv_aload_n hx hb dX6_at_21 rfl (lv_at hl 0 rfl) ?_
    refine va_get (D := D) (ci := 2) (v := .ref no) (C := "KindredBooks$Ledger") (T := T_zk2) (N := 4) hx hb hw in_zk2 hown hK hP 0 rfl rfl 1 (by decide) (hw _ mw_165) (fun _ h9 => h9) rfl dX6_at_22 ?_
    have hP9 := hP.sub (ws' := [(xl, .inr (2, [.ref bl, .ref no, .ref ro, .int 0]))]) [0] rfl
    have hD9 := hD.sub (ws' := [(xl, .inr (2, [.ref bl, .ref no, .ref ro, .int 0]))]) [0] (by decide) rfl
    exact W.aret (v := .ref no) hx hb hr (Or.inl ⟨_, rfl⟩) (Or.inr ⟨_, rfl⟩) (fun t ht hW => ⟨⟨(some no), (), rfl, rfl, by rw [ht]; exact hP9, hD9⟩, hS.F ht⟩) hS.2.2 dX6_at_25
set_option maxHeartbeats 4000000 in
set_option maxRecDepth 100000 in
/-- isLive(y) of a fresh book: false -/
theorem c_isLive0 (l : Launch) (D : va_G) (dA : Nat → ClassId) (dZ : Nat → Nat) (sz : Nat) (bk : Nat) (xl : Nat) (b1 : Nat) (b2 : Nat) (b3 : Nat) (b4 : Nat) (hd : Int32) (vr : Int32) (y : Int32) : Met l yX1_isLive (wz yX1_isLive cX1_isLive 2 (some .boolean)) ({ frames := 1, cells := 0, slots := 0, locals := 30 } : Room) (va_Pc [.ref bk, .int y] (zP D dA dZ [(bk, .inr (5, [.int hd, .ref xl, .ref b1, .ref b2, .ref b3, .ref b4, .int 0, .int 0, .int vr])), (b3, .inl (dA 1, 250, .inl (fun _ => 0)))] sz)) (va_Qi (fun (r : Int32) (_ : Unit) => r = 0) (fun _ => zB D (va_A [(bk, .inr (5, [.int hd, .ref xl, .ref b1, .ref b2, .ref b3, .ref b4, .int 0, .int 0, .int vr])), (b3, .inl (dA 1, 250, .inl (fun _ => 0)))] sz) [(bk, .inr (5, [.int hd, .ref xl, .ref b1, .ref b2, .ref b3, .ref b4, .int 0, .int 0, .int vr])), (b3, .inl (dA 1, 250, .inl (fun _ => 0)))]) (va_A [(bk, .inr (5, [.int hd, .ref xl, .ref b1, .ref b2, .ref b3, .ref b4, .int 0, .int 0, .int vr])), (b3, .inl (dA 1, 250, .inl (fun _ => 0)))] sz)) 0 0 (va_A [(bk, .inr (5, [.int hd, .ref xl, .ref b1, .ref b2, .ref b3, .ref b4, .int 0, .int 0, .int vr])), (b3, .inl (dA 1, 250, .inl (fun _ => 0)))] sz) := by
  refine Met.ofW (cc := cX1_isLive) (maxL := 2) (ret := (some .boolean)) (by decide) rfl ?_
  intro p e s m args below meth c s₁ B hml hv
  obtain ⟨rfl, hsz, hP, hK, hD0, hT, hE⟩ := hv
  have hx := B.exec
  have hb := B.bytes
  have hr := B.returns
  have hw := wz_hw (atoms_spec (ws := wz yX1_isLive cX1_isLive 2 (some .boolean)) B.pre)
  have hown : s.vm.findClass "KindredBooks$Book" = some m.cls := findClass_of_methodNamed B.named
  have hlocks := B.notSynchronized
  have hn := hT.1.use (args := ([.ref bk, .int y] : List Value).toArray)
  subst hsz
  have hD := hD0.self (sz := s.heap.size)
  generalize hAe : va_A [(bk, .inr (5, [.int hd, .ref xl, .ref b1, .ref b2, .ref b3, .ref b4, .int 0, .int 0, .int vr])), (b3, .inl (dA 1, 250, .inl (fun _ => 0)))] s.heap.size = A at hD hE ⊢
  have hA : ∀ q : Nat, s.heap.size ≤ q → A q := fun q h => by rw [← hAe]; exact Or.inr h
  have hS : va_S A s.heap s.heap [] := va_S.rf
  replace hP : va_P D zcl [(bk, .inr (5, [.int hd, .ref xl, .ref b1, .ref b2, .ref b3, .ref b4, .int 0, .int 0, .int vr])), (b3, .inl (dA 1, 250, .inl (fun _ => 0)))] s.heap := hP
  have hl := lv_entry ([.ref bk, .int y]) (n := 2) (Nat.le_of_ble_eq_true rfl)
  rw [lg_entry_eq]
  generalize (lg_sl ([.ref bk, .int y]) ++ List.replicate (2 - (lg_sl ([.ref bk, .int y])).length) Slot.unset).toArray = ls at hl ⊢
  replace hl : lv_has ls 2 [(0, .ref bk), (1, .int y)] := hl
  refine lv_aload_n hx hb dX1_isLive_0 rfl (lv_at hl 0 rfl) ?_
  refine lv_iload_n hx hb dX1_isLive_1 rfl (lv_at hl 1 rfl) ?_
  have hPc := hP.sub (ws' := [(bk, .inr (5, [.int hd, .ref xl, .ref b1, .ref b2, .ref b3, .ref b4, .int 0, .int 0, .int vr])), (b3, .inl (dA 1, 250, .inl (fun _ => 0)))]) [0, 1] rfl
  have hDc := hD.sub (ws' := [(bk, .inr (5, [.int hd, .ref xl, .ref b1, .ref b2, .ref b3, .ref b4, .int 0, .int 0, .int vr])), (b3, .inl (dA 1, 250, .inl (fun _ => 0)))]) [0, 1] (by decide) rfl
  have hFc := va_free (wc := [(bk, .inr (5, [.int hd, .ref xl, .ref b1, .ref b2, .ref b3, .ref b4, .int 0, .int 0, .int vr])), (b3, .inl (dA 1, 250, .inl (fun _ => 0)))]) hD hS hA [0, 1] rfl
  refine va_calli (va_runV (As := [.int y]) (rest := []) ⟨hx, hb, hml, hown, hw⟩ (c_isStanding0 l D dA dZ _ bk xl b1 b2 b3 b4 hd vr y) (z_cwV 1 hw mw_677 mw_678 mw_679 mw_9 mw_680 rfl rfl (by decide +kernel) ⟨Nat.le_of_ble_eq_true rfl, Nat.le_of_ble_eq_true rfl⟩) (zPreV hPc hK hDc hT hE hS hFc (va_recv hK hP (ci := 5) (q0 := 0) rfl rfl)) rfl rfl hl.1 rfl (lv_room (Nat.le_of_ble_eq_true rfl)) dX1_isLive_2 ⟨Nat.le_of_ble_eq_true rfl, Nat.le_of_ble_eq_true rfl⟩) hS (fun q _ h => hFc q h) hFc (fun r_1 u t H1 locs ht hvm hpo hB hz1 hk1 hS => ?_)
  obtain ⟨hP1, hD1⟩ := hB
  rw [ht] at hP1
  obtain ⟨hP, hD⟩ := va_join (wr := []) (w1 := [(bk, .inr (5, [.int hd, .ref xl, .ref b1, .ref b2, .ref b3, .ref b4, .int 0, .int 0, .int vr])), (b3, .inl (dA 1, 250, .inl (fun _ => 0)))]) hP hD [0, 1] [] rfl rfl (by decide) (by decide) hk1 hFc hP1 hD1
  generalize H1 = H at hP hS ⊢
  have hP : va_P D zcl [(bk, .inr (5, [.int hd, .ref xl, .ref b1, .ref b2, .ref b3, .ref b4, .int 0, .int 0, .int vr])), (b3, .inl (dA 1, 250, .inl (fun _ => 0)))] H := hP
  have hD : va_D A [(bk, .inr (5, [.int hd, .ref xl, .ref b1, .ref b2, .ref b3, .ref b4, .int 0, .int 0, .int vr])), (b3, .inl (dA 1, 250, .inl (fun _ => 0)))] := hD
  obtain rfl : r_1 = 0 := hpo
  refine lv_if_eq (tgt := 26) hx hb dX1_isLive_5 (by decide) (fun _ => ?_) (fun zc => absurd (by decide) zc)
  refine lv_iconst (v := 0) hx hb dX1_isLive_26 (by decide) ?_
  have hP9 := hP.sub (ws' := [(bk, .inr (5, [.int hd, .ref xl, .ref b1, .ref b2, .ref b3, .ref b4, .int 0, .int 0, .int vr])), (b3, .inl (dA 1, 250, .inl (fun _ => 0)))]) [0, 1] rfl
  have hD9 := hD.sub (ws' := [(bk, .inr (5, [.int hd, .ref xl, .ref b1, .ref b2, .ref b3, .ref b4, .int 0, .int 0, .int vr])), (b3, .inl (dA 1, 250, .inl (fun _ => 0)))]) [0, 1] (by decide) rfl
  exact W.zret (v := 0) hx hb hr rfl (fun t ht hW => ⟨⟨0, (), rfl, rfl, by rw [ht]; exact hP9, hD9⟩, hS.F ht⟩) hS.2.2 dX1_isLive_27
set_option maxHeartbeats 4000000 in
set_option maxRecDepth 100000 in
/-- checkLive: none lives in a fresh book -/
theorem c_checkLive_no (l : Launch) (D : va_G) (dA : Nat → ClassId) (dZ : Nat → Nat) (sz : Nat) (hfl : l.stackTraces = false) (ax : Nat) (bk : Nat) (xl : Nat) (b1 : Nat) (b2 : Nat) (b3 : Nat) (b4 : Nat) (hd : Int32) (vr : Int32) (y : Int32) : vx_Met l yX11_checkLive (wz yX11_checkLive cX11_checkLive 3 none) ({ frames := 6, cells := 1, slots := 6, locals := 100 } : Room) (va_Pc [.ref ax, .ref bk, .int y] (zP D dA dZ [(bk, .inr (5, [.int hd, .ref xl, .ref b1, .ref b2, .ref b3, .ref b4, .int 0, .int 0, .int vr])), (b3, .inl (dA 1, 250, .inl (fun _ => 0)))] sz)) zNo (zX "java/util/NoSuchElementException" (va_A [(bk, .inr (5, [.int hd, .ref xl, .ref b1, .ref b2, .ref b3, .ref b4, .int 0, .int 0, .int vr])), (b3, .inl (dA 1, 250, .inl (fun _ => 0)))] sz)) 1 6 (va_A [(bk, .inr (5, [.int hd, .ref xl, .ref b1, .ref b2, .ref b3, .ref b4, .int 0, .int 0, .int vr])), (b3, .inl (dA 1, 250, .inl (fun _ => 0)))] sz) := by
  refine vx_ofW (cc := cX11_checkLive) (maxL := 3) (ret := none) (by decide) rfl ?_
  intro p e s m args below meth c s₁ B hml hno hv
  obtain ⟨rfl, hsz, hP, hK, hD0, hT, hE⟩ := hv
  have hx := B.exec
  have hb := B.bytes
  have hr := B.returns
  have hw := wz_hw (atoms_spec (ws := wz yX11_checkLive cX11_checkLive 3 none) B.pre)
  have hown : s.vm.findClass "KindredBooks" = some m.cls := findClass_of_methodNamed B.named
  have hlocks := B.notSynchronized
  have hn := hT.1.use (args := ([.ref ax, .ref bk, .int y] : List Value).toArray)
  subst hsz
  have hD := hD0.self (sz := s.heap.size)
  generalize hAe : va_A [(bk, .inr (5, [.int hd, .ref xl, .ref b1, .ref b2, .ref b3, .ref b4, .int 0, .int 0, .int vr])), (b3, .inl (dA 1, 250, .inl (fun _ => 0)))] s.heap.size = A at hD hE ⊢
  have hA : ∀ q : Nat, s.heap.size ≤ q → A q := fun q h => by rw [← hAe]; exact Or.inr h
  have hS : va_S A s.heap s.heap [] := va_S.rf
  replace hP : va_P D zcl [(bk, .inr (5, [.int hd, .ref xl, .ref b1, .ref b2, .ref b3, .ref b4, .int 0, .int 0, .int vr])), (b3, .inl (dA 1, 250, .inl (fun _ => 0)))] s.heap := hP
  have hl := lv_entry ([.ref ax, .ref bk, .int y]) (n := 3) (Nat.le_of_ble_eq_true rfl)
  rw [lg_entry_eq]
  generalize (lg_sl ([.ref ax, .ref bk, .int y]) ++ List.replicate (3 - (lg_sl ([.ref ax, .ref bk, .int y])).length) Slot.unset).toArray = ls at hl ⊢
  replace hl : lv_has ls 3 [(0, .ref ax), (1, .ref bk), (2, .int y)] := hl
  refine lv_aload_n hx hb dX11_checkLive_0 rfl (lv_at hl 1 rfl) ?_
  refine lv_iload_n hx hb dX11_checkLive_1 rfl (lv_at hl 2 rfl) ?_
  have hPc := hP.sub (ws' := [(bk, .inr (5, [.int hd, .ref xl, .ref b1, .ref b2, .ref b3, .ref b4, .int 0, .int 0, .int vr])), (b3, .inl (dA 1, 250, .inl (fun _ => 0)))]) [0, 1] rfl
  have hDc := hD.sub (ws' := [(bk, .inr (5, [.int hd, .ref xl, .ref b1, .ref b2, .ref b3, .ref b4, .int 0, .int 0, .int vr])), (b3, .inl (dA 1, 250, .inl (fun _ => 0)))]) [0, 1] (by decide) rfl
  have hFc := va_free (wc := [(bk, .inr (5, [.int hd, .ref xl, .ref b1, .ref b2, .ref b3, .ref b4, .int 0, .int 0, .int vr])), (b3, .inl (dA 1, 250, .inl (fun _ => 0)))]) hD hS hA [0, 1] rfl
  refine va_calli (va_runV (As := [.int y]) (rest := []) ⟨hx, hb, hml, hown, hw⟩ (c_isLive0 l D dA dZ _ bk xl b1 b2 b3 b4 hd vr y) (z_cwV 1 hw mw_699 mw_674 mw_675 mw_9 mw_676 rfl rfl (by decide +kernel) ⟨Nat.le_of_ble_eq_true rfl, Nat.le_of_ble_eq_true rfl⟩) (zPreV hPc hK hDc hT hE hS hFc (va_recv hK hP (ci := 5) (q0 := 0) rfl rfl)) rfl rfl hl.1 rfl (lv_room (Nat.le_of_ble_eq_true rfl)) dX11_checkLive_2 ⟨Nat.le_of_ble_eq_true rfl, Nat.le_of_ble_eq_true rfl⟩) hS (fun q _ h => hFc q h) hFc (fun r_1 u t H1 locs ht hvm hpo hB hz1 hk1 hS => ?_)
  obtain ⟨hP1, hD1⟩ := hB
  rw [ht] at hP1
  obtain ⟨hP, hD⟩ := va_join (wr := []) (w1 := [(bk, .inr (5, [.int hd, .ref xl, .ref b1, .ref b2, .ref b3, .ref b4, .int 0, .int 0, .int vr])), (b3, .inl (dA 1, 250, .inl (fun _ => 0)))]) hP hD [0, 1] [] rfl rfl (by decide) (by decide) hk1 hFc hP1 hD1
  generalize H1 = H at hP hS ⊢
  have hP : va_P D zcl [(bk, .inr (5, [.int hd, .ref xl, .ref b1, .ref b2, .ref b3, .ref b4, .int 0, .int 0, .int vr])), (b3, .inl (dA 1, 250, .inl (fun _ => 0)))] H := hP
  have hD : va_D A [(bk, .inr (5, [.int hd, .ref xl, .ref b1, .ref b2, .ref b3, .ref b4, .int 0, .int 0, .int vr])), (b3, .inl (dA 1, 250, .inl (fun _ => 0)))] := hD
  obtain rfl : r_1 = 0 := hpo
  refine lv_if_ne (tgt := 19) hx hb dX11_checkLive_5 (by decide) (fun zc => absurd (by decide) zc) (fun _ => ?_)
  obtain ⟨sa, hsa⟩ := hT.2.1 ("KindredBooks", 409, "the entry is not live in this book") (by decide)
  exact zn_throwSW (own := "KindredBooks") (XC := zX "java/util/NoSuchElementException" A) hx hb hfl hown (hw _ mw_700) (hw _ mw_38) hsa (zn_ats hw hT.1 xat_KindredBooks_173_NoSuchElementException) xgd_KindredBooks_173_169 hE.2.2.2.2.2.1 hE.2.2.2.2.2.2 hS (hl.1.trans hml.symm) dX11_checkLive_8 dX11_checkLive_11 dX11_checkLive_12 dX11_checkLive_15 dX11_checkLive_18 (fun x hx => (hno x hx).elim) (Nat.le_of_ble_eq_true rfl) (Nat.le_of_ble_eq_true rfl) (Nat.le_of_ble_eq_true rfl) (Nat.le_of_ble_eq_true rfl) hlocks (fun t _ h1 h2 => zX_of hS h1 h2) hS.2.2 (Nat.le_of_ble_eq_true rfl) (Nat.le_of_ble_eq_true rfl)
set_option maxHeartbeats 4000000 in
set_option maxRecDepth 100000 in
/-- checkChange: there is none -/
theorem c_checkChange_no (l : Launch) (D : va_G) (dA : Nat → ClassId) (dZ : Nat → Nat) (sz : Nat) (hfl : l.stackTraces = false) (ax : Nat) (xt : Nat) (xp : Nat) (xs : Nat) (xl : Nat) (xb : Nat) (xk : Nat) (xm : Nat) (xq : Nat) (xg : Nat) (xf : Nat) (xe : Nat) (bl : Nat) (no : Nat) (ro : Nat) (y : Int32) : vx_Met l yX11_checkChange (wz yX11_checkChange cX11_checkChange 2 none) ({ frames := 6, cells := 1, slots := 6, locals := 100 } : Room) (va_Pc [.ref ax, .int y] (zP D dA dZ [(ax, .inr (0, [.ref xt, .ref xp, .ref xs, .ref xl, .ref xb, .ref xk, .ref xm, .ref xq, .ref xg, .ref xf, .ref xe, .int 49])), (xl, .inr (2, [.ref bl, .ref no, .ref ro, .int 0]))] sz)) zNo (zX "java/lang/IndexOutOfBoundsException" (va_A [(ax, .inr (0, [.ref xt, .ref xp, .ref xs, .ref xl, .ref xb, .ref xk, .ref xm, .ref xq, .ref xg, .ref xf, .ref xe, .int 49])), (xl, .inr (2, [.ref bl, .ref no, .ref ro, .int 0]))] sz)) 1 6 (va_A [(ax, .inr (0, [.ref xt, .ref xp, .ref xs, .ref xl, .ref xb, .ref xk, .ref xm, .ref xq, .ref xg, .ref xf, .ref xe, .int 49])), (xl, .inr (2, [.ref bl, .ref no, .ref ro, .int 0]))] sz) := by
  refine vx_ofW (cc := cX11_checkChange) (maxL := 2) (ret := none) (by decide) rfl ?_
  intro p e s m args below meth c s₁ B hml hno hv
  obtain ⟨rfl, hsz, hP, hK, hD0, hT, hE⟩ := hv
  have hx := B.exec
  have hb := B.bytes
  have hr := B.returns
  have hw := wz_hw (atoms_spec (ws := wz yX11_checkChange cX11_checkChange 2 none) B.pre)
  have hown : s.vm.findClass "KindredBooks" = some m.cls := findClass_of_methodNamed B.named
  have hlocks := B.notSynchronized
  have hn := hT.1.use (args := ([.ref ax, .int y] : List Value).toArray)
  subst hsz
  have hD := hD0.self (sz := s.heap.size)
  generalize hAe : va_A [(ax, .inr (0, [.ref xt, .ref xp, .ref xs, .ref xl, .ref xb, .ref xk, .ref xm, .ref xq, .ref xg, .ref xf, .ref xe, .int 49])), (xl, .inr (2, [.ref bl, .ref no, .ref ro, .int 0]))] s.heap.size = A at hD hE ⊢
  have hA : ∀ q : Nat, s.heap.size ≤ q → A q := fun q h => by rw [← hAe]; exact Or.inr h
  have hS : va_S A s.heap s.heap [] := va_S.rf
  replace hP : va_P D zcl [(ax, .inr (0, [.ref xt, .ref xp, .ref xs, .ref xl, .ref xb, .ref xk, .ref xm, .ref xq, .ref xg, .ref xf, .ref xe, .int 49])), (xl, .inr (2, [.ref bl, .ref no, .ref ro, .int 0]))] s.heap := hP
  have hl := lv_entry ([.ref ax, .int y]) (n := 2) (Nat.le_of_ble_eq_true rfl)
  rw [lg_entry_eq]
  generalize (lg_sl ([.ref ax, .int y]) ++ List.replicate (2 - (lg_sl ([.ref ax, .int y])).length) Slot.unset).toArray = ls at hl ⊢
  replace hl : lv_has ls 2 [(0, .ref ax), (1, .int y)] := hl
  refine lv_iload_n hx hb dX11_checkChange_0 rfl (lv_at hl 1 rfl) ?_
  refine lv_if_lt (tgt := 15) hx hb dX11_checkChange_1 (by decide) (fun c1 => ?_) (fun c1 => ?_)
  · obtain ⟨sa, hsa⟩ := hT.2.1 ("KindredBooks", 400, "there is no such change") (by decide)
    exact vx_throwSW (own := "KindredBooks") (cls := "java/lang/IndexOutOfBoundsException") (names := ["java/lang/RuntimeException", "java/lang/Exception"]) (XC := zX "java/lang/IndexOutOfBoundsException" A) hx hb hfl hown (by decide) (by decide) (hw _ mw_607) (hw _ mw_29) hsa (z_at hw hT.1 xat_KindredBooks_216_IndexOutOfBoundsException) xgd_KindredBooks_216_212 hE.2.2.2.2.2.1 hE.2.2.2.2.2.2 hS (hl.1.trans hml.symm) dX11_checkChange_15 dX11_checkChange_18 dX11_checkChange_19 dX11_checkChange_22 dX11_checkChange_25 (fun x hx => (hno x hx).elim) (Nat.le_of_ble_eq_true rfl) (Nat.le_of_ble_eq_true rfl) (Nat.le_of_ble_eq_true rfl) (Nat.le_of_ble_eq_true rfl) hlocks (fun t _ h1 h2 => zX_of hS h1 h2) hS.2.2 (Nat.le_of_ble_eq_true rfl) (Nat.le_of_ble_eq_true rfl)
  · refine lv_iload_n hx hb dX11_checkChange_4 rfl (lv_at hl 1 rfl) ?_
    refine lv_aload_n hx hb dX11_checkChange_5 rfl (lv_at hl 0 rfl) ?_
    refine va_get (D := D) (ci := 0) (v := .ref xl) (C := "KindredBooks") (T := T_zk0) (N := 12) hx hb hw in_zk0 hown hK hP 0 rfl rfl 3 (by decide) (hw _ mw_349) (fun _ h9 => h9) rfl dX11_checkChange_6 ?_
    refine va_getN (D := D) (ci := 2) (v := .int 0) (C := "KindredBooks$Ledger") (T := T_zk2) (N := 4) hx hb hw in_zk2 hown hK hP 1 rfl rfl 3 (by decide) (hn _ mn_170) (fun _ h9 => h9) rfl dX11_checkChange_9 ?_
    refine lv_icmp_lt (tgt := 26) hx hb dX11_checkChange_12 (by decide) (fun zc => absurd zc (Int32.not_lt.mpr (Int32.not_lt.mp c1))) (fun _ => ?_)
    obtain ⟨sa, hsa⟩ := hT.2.1 ("KindredBooks", 400, "there is no such change") (by decide)
    exact vx_throwSW (own := "KindredBooks") (cls := "java/lang/IndexOutOfBoundsException") (names := ["java/lang/RuntimeException", "java/lang/Exception"]) (XC := zX "java/lang/IndexOutOfBoundsException" A) hx hb hfl hown (by decide) (by decide) (hw _ mw_607) (hw _ mw_29) hsa (z_at hw hT.1 xat_KindredBooks_216_IndexOutOfBoundsException) xgd_KindredBooks_216_212 hE.2.2.2.2.2.1 hE.2.2.2.2.2.2 hS (hl.1.trans hml.symm) dX11_checkChange_15 dX11_checkChange_18 dX11_checkChange_19 dX11_checkChange_22 dX11_checkChange_25 (fun x hx => (hno x hx).elim) (Nat.le_of_ble_eq_true rfl) (Nat.le_of_ble_eq_true rfl) (Nat.le_of_ble_eq_true rfl) (Nat.le_of_ble_eq_true rfl) hlocks (fun t _ h1 h2 => zX_of hS h1 h2) hS.2.2 (Nat.le_of_ble_eq_true rfl) (Nat.le_of_ble_eq_true rfl)
set_option maxHeartbeats 4000000 in
set_option maxRecDepth 100000 in
/-- rowOf: no answers -/
theorem c_rowOf_no (l : Launch) (D : va_G) (dA : Nat → ClassId) (dZ : Nat → Nat) (sz : Nat) (hfl : l.stackTraces = false) (ax : Nat) (an : Nat) (rw_ : Nat) (y : Int32) : vx_Met l yX11_rowOf (wz yX11_rowOf cX11_rowOf 3 (some .long)) ({ frames := 6, cells := 1, slots := 6, locals := 100 } : Room) (va_Pc [.ref ax, .ref an, .int y] (zP D dA dZ [(an, .inr (9, [.ref rw_, .int 0]))] sz)) zNo (zX "java/lang/IndexOutOfBoundsException" (va_A [(an, .inr (9, [.ref rw_, .int 0]))] sz)) 1 6 (va_A [(an, .inr (9, [.ref rw_, .int 0]))] sz) := by
  refine vx_ofW (cc := cX11_rowOf) (maxL := 3) (ret := (some .long)) (by decide) rfl ?_
  intro p e s m args below meth c s₁ B hml hno hv
  obtain ⟨rfl, hsz, hP, hK, hD0, hT, hE⟩ := hv
  have hx := B.exec
  have hb := B.bytes
  have hr := B.returns
  have hw := wz_hw (atoms_spec (ws := wz yX11_rowOf cX11_rowOf 3 (some .long)) B.pre)
  have hown : s.vm.findClass "KindredBooks" = some m.cls := findClass_of_methodNamed B.named
  have hlocks := B.notSynchronized
  have hn := hT.1.use (args := ([.ref ax, .ref an, .int y] : List Value).toArray)
  subst hsz
  have hD := hD0.self (sz := s.heap.size)
  generalize hAe : va_A [(an, .inr (9, [.ref rw_, .int 0]))] s.heap.size = A at hD hE ⊢
  have hA : ∀ q : Nat, s.heap.size ≤ q → A q := fun q h => by rw [← hAe]; exact Or.inr h
  have hS : va_S A s.heap s.heap [] := va_S.rf
  replace hP : va_P D zcl [(an, .inr (9, [.ref rw_, .int 0]))] s.heap := hP
  have hl := lv_entry ([.ref ax, .ref an, .int y]) (n := 3) (Nat.le_of_ble_eq_true rfl)
  rw [lg_entry_eq]
  generalize (lg_sl ([.ref ax, .ref an, .int y]) ++ List.replicate (3 - (lg_sl ([.ref ax, .ref an, .int y])).length) Slot.unset).toArray = ls at hl ⊢
  replace hl : lv_has ls 3 [(0, .ref ax), (1, .ref an), (2, .int y)] := hl
  refine lv_iload_n hx hb dX11_rowOf_0 rfl (lv_at hl 2 rfl) ?_
  refine lv_if_lt (tgt := 12) hx hb dX11_rowOf_1 (by decide) (fun c1 => ?_) (fun c1 => ?_)
  · obtain ⟨sa, hsa⟩ := hT.2.1 ("KindredBooks", 411, "there is no such answer") (by decide)
    exact vx_throwSW (own := "KindredBooks") (cls := "java/lang/IndexOutOfBoundsException") (names := ["java/lang/RuntimeException", "java/lang/Exception"]) (XC := zX "java/lang/IndexOutOfBoundsException" A) hx hb hfl hown (by decide) (by decide) (hw _ mw_607) (hw _ mw_29) hsa (z_at hw hT.1 xat_KindredBooks_216_IndexOutOfBoundsException) xgd_KindredBooks_216_212 hE.2.2.2.2.2.1 hE.2.2.2.2.2.2 hS (hl.1.trans hml.symm) dX11_rowOf_12 dX11_rowOf_15 dX11_rowOf_16 dX11_rowOf_19 dX11_rowOf_22 (fun x hx => (hno x hx).elim) (Nat.le_of_ble_eq_true rfl) (Nat.le_of_ble_eq_true rfl) (Nat.le_of_ble_eq_true rfl) (Nat.le_of_ble_eq_true rfl) hlocks (fun t _ h1 h2 => zX_of hS h1 h2) hS.2.2 (Nat.le_of_ble_eq_true rfl) (Nat.le_of_ble_eq_true rfl)
  · refine lv_iload_n hx hb dX11_rowOf_4 rfl (lv_at hl 2 rfl) ?_
    refine lv_aload_n hx hb dX11_rowOf_5 rfl (lv_at hl 1 rfl) ?_
    refine va_getN (D := D) (ci := 9) (v := .int 0) (C := "KindredBooks$Answers") (T := T_zk9) (N := 2) hx hb hw in_zk9 hown hK hP 0 rfl rfl 1 (by decide) (hn _ mn_255) (fun _ h9 => h9) rfl dX11_rowOf_6 ?_
    refine lv_icmp_lt (tgt := 23) hx hb dX11_rowOf_9 (by decide) (fun zc => absurd zc (Int32.not_lt.mpr (Int32.not_lt.mp c1))) (fun _ => ?_)
    obtain ⟨sa, hsa⟩ := hT.2.1 ("KindredBooks", 411, "there is no such answer") (by decide)
    exact vx_throwSW (own := "KindredBooks") (cls := "java/lang/IndexOutOfBoundsException") (names := ["java/lang/RuntimeException", "java/lang/Exception"]) (XC := zX "java/lang/IndexOutOfBoundsException" A) hx hb hfl hown (by decide) (by decide) (hw _ mw_607) (hw _ mw_29) hsa (z_at hw hT.1 xat_KindredBooks_216_IndexOutOfBoundsException) xgd_KindredBooks_216_212 hE.2.2.2.2.2.1 hE.2.2.2.2.2.2 hS (hl.1.trans hml.symm) dX11_rowOf_12 dX11_rowOf_15 dX11_rowOf_16 dX11_rowOf_19 dX11_rowOf_22 (fun x hx => (hno x hx).elim) (Nat.le_of_ble_eq_true rfl) (Nat.le_of_ble_eq_true rfl) (Nat.le_of_ble_eq_true rfl) (Nat.le_of_ble_eq_true rfl) hlocks (fun t _ h1 h2 => zX_of hS h1 h2) hS.2.2 (Nat.le_of_ble_eq_true rfl) (Nat.le_of_ble_eq_true rfl)
