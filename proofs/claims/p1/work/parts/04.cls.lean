abbrev cX11_bookOf : ByteArray := prog_1_method_49_code
def yX11_bookOf : MethodName := ⟨"KindredBooks", "bookOf", "(I)LKindredBooks$Book;"⟩
theorem mw_606 : (Jvm.Cond.code ({ cls := "KindredBooks", name := "bookOf", desc := "(I)LKindredBooks$Book;" } : Jvm.MethodName) prog_1_method_49_code (2 : Nat) (Option.some (Jvm.ClassFile.FieldType.object "KindredBooks$Book"))) ∈ W0 := W0_of (List.mem_append_right _ (List.mem_of_getElem? (i := 606) (by decide +kernel))) rfl
theorem dX11_bookOf_0 : decode cX11_bookOf 0 = .ok (.iload_n 1, 1) := by decide +kernel
theorem dX11_bookOf_1 : decode cX11_bookOf 1 = .ok (.ifCond .lt 8, 3) := by decide +kernel
theorem dX11_bookOf_9 : decode cX11_bookOf 9 = .ok (.new 212, 3) := by decide +kernel
theorem dX11_bookOf_12 : decode cX11_bookOf 12 = .ok (.dup, 1) := by decide +kernel
theorem dX11_bookOf_13 : decode cX11_bookOf 13 = .ok (.ldc_w 395, 3) := by decide +kernel
theorem dX11_bookOf_16 : decode cX11_bookOf 16 = .ok (.invokespecial 216, 3) := by decide +kernel
theorem dX11_bookOf_19 : decode cX11_bookOf 19 = .ok (.athrow, 1) := by decide +kernel
theorem xat_KindredBooks_216_IndexOutOfBoundsException : ∀ w ∈ vx_atS "KindredBooks" 216 "java/lang/IndexOutOfBoundsException" ["java/lang/RuntimeException", "java/lang/Exception"], w ∈ lw_tbl ∧ (goodWord w || isN w) = true := by decide +kernel
theorem mw_607 : (Jvm.Cond.classLink "KindredBooks" (212 : Nat) "java/lang/IndexOutOfBoundsException") ∈ W0 := W0_of (List.mem_append_right _ (List.mem_of_getElem? (i := 607) (by decide +kernel))) rfl
theorem mw_29 : (Jvm.Cond.initialized "java/lang/IndexOutOfBoundsException") ∈ W0 := W0_of (List.mem_append_right _ (List.mem_of_getElem? (i := 29) (by decide +kernel))) rfl
theorem xgd_KindredBooks_216_212 : ∀ w ∈ Cond.classLink "KindredBooks" 212 "java/lang/IndexOutOfBoundsException" :: Cond.initialized "java/lang/IndexOutOfBoundsException" :: vx_atS "KindredBooks" 216 "java/lang/IndexOutOfBoundsException" ["java/lang/RuntimeException", "java/lang/Exception"], vx_ot w = true := by decide +kernel
abbrev cX11_kinOf : ByteArray := prog_1_method_50_code
def yX11_kinOf : MethodName := ⟨"KindredBooks", "kinOf", "(I)LKindredBooks$Kin;"⟩
theorem mw_866 : (Jvm.Cond.code ({ cls := "KindredBooks", name := "kinOf", desc := "(I)LKindredBooks$Kin;" } : Jvm.MethodName) prog_1_method_50_code (2 : Nat) (Option.some (Jvm.ClassFile.FieldType.object "KindredBooks$Kin"))) ∈ W0 := W0_of (List.mem_append_right _ (List.mem_of_getElem? (i := 866) (by decide +kernel))) rfl
theorem dX11_kinOf_0 : decode cX11_kinOf 0 = .ok (.iload_n 1, 1) := by decide +kernel
theorem dX11_kinOf_1 : decode cX11_kinOf 1 = .ok (.ifCond .lt 8, 3) := by decide +kernel
theorem dX11_kinOf_9 : decode cX11_kinOf 9 = .ok (.new 212, 3) := by decide +kernel
theorem dX11_kinOf_12 : decode cX11_kinOf 12 = .ok (.dup, 1) := by decide +kernel
theorem dX11_kinOf_13 : decode cX11_kinOf 13 = .ok (.ldc_w 395, 3) := by decide +kernel
theorem dX11_kinOf_16 : decode cX11_kinOf 16 = .ok (.invokespecial 216, 3) := by decide +kernel
theorem dX11_kinOf_19 : decode cX11_kinOf 19 = .ok (.athrow, 1) := by decide +kernel
theorem dX11_bookOf_4 : decode cX11_bookOf 4 = .ok (.iload_n 1, 1) := by decide +kernel
theorem dX11_bookOf_5 : decode cX11_bookOf 5 = .ok (.iconst 3, 1) := by decide +kernel
theorem dX11_bookOf_6 : decode cX11_bookOf 6 = .ok (.if_icmp .lt 14, 3) := by decide +kernel
theorem dX11_kinOf_4 : decode cX11_kinOf 4 = .ok (.iload_n 1, 1) := by decide +kernel
theorem dX11_kinOf_5 : decode cX11_kinOf 5 = .ok (.iconst 3, 1) := by decide +kernel
theorem dX11_kinOf_6 : decode cX11_kinOf 6 = .ok (.if_icmp .lt 14, 3) := by decide +kernel
theorem dX11_bookOf_20 : decode cX11_bookOf 20 = .ok (.aload_n 0, 1) := by decide +kernel
theorem dX11_bookOf_21 : decode cX11_bookOf 21 = .ok (.getfield 33, 3) := by decide +kernel
theorem mw_350 : (Jvm.Cond.fieldLink "KindredBooks" (33 : Nat) "KindredBooks" "books" "[LKindredBooks$Book;") ∈ W0 := W0_of (List.mem_append_right _ (List.mem_of_getElem? (i := 350) (by decide +kernel))) rfl
theorem dX11_bookOf_24 : decode cX11_bookOf 24 = .ok (.iload_n 1, 1) := by decide +kernel
theorem dX11_bookOf_25 : decode cX11_bookOf 25 = .ok (.aaload, 1) := by decide +kernel
theorem dX11_bookOf_26 : decode cX11_bookOf 26 = .ok (.areturn, 1) := by decide +kernel
abbrev cX11_checkRoom : ByteArray := prog_1_method_52_code
def yX11_checkRoom : MethodName := ⟨"KindredBooks", "checkRoom", "()V"⟩
theorem mw_626 : (Jvm.Cond.code ({ cls := "KindredBooks", name := "checkRoom", desc := "()V" } : Jvm.MethodName) prog_1_method_52_code (1 : Nat) (Option.none : Option Jvm.ClassFile.FieldType)) ∈ W0 := W0_of (List.mem_append_right _ (List.mem_of_getElem? (i := 626) (by decide +kernel))) rfl
theorem dX11_checkRoom_0 : decode cX11_checkRoom 0 = .ok (.aload_n 0, 1) := by decide +kernel
theorem dX11_checkRoom_1 : decode cX11_checkRoom 1 = .ok (.getfield 27, 3) := by decide +kernel
theorem mw_349 : (Jvm.Cond.fieldLink "KindredBooks" (27 : Nat) "KindredBooks" "ledger" "LKindredBooks$Ledger;") ∈ W0 := W0_of (List.mem_append_right _ (List.mem_of_getElem? (i := 349) (by decide +kernel))) rfl
theorem dX11_checkRoom_4 : decode cX11_checkRoom 4 = .ok (.getfield 103, 3) := by decide +kernel
theorem mn_170 : (Jvm.Cond.fieldLinkNest "KindredBooks" (103 : Nat) "KindredBooks$Ledger" "size" "I" "KindredBooks") ∈ N0 := N0_of (List.mem_append_right _ (List.mem_of_getElem? (i := 170) (by decide +kernel))) rfl
theorem dX11_checkRoom_7 : decode cX11_checkRoom 7 = .ok (.sipush 250, 3) := by decide +kernel
theorem dX11_checkRoom_10 : decode cX11_checkRoom 10 = .ok (.if_icmp .lt 14, 3) := by decide +kernel
theorem dX11_checkRoom_24 : decode cX11_checkRoom 24 = .ok (.return_, 1) := by decide +kernel
abbrev cX11_checkKind : ByteArray := prog_1_method_53_code
def yX11_checkKind : MethodName := ⟨"KindredBooks", "checkKind", "(I)V"⟩
theorem mw_693 : (Jvm.Cond.code ({ cls := "KindredBooks", name := "checkKind", desc := "(I)V" } : Jvm.MethodName) prog_1_method_53_code (2 : Nat) (Option.none : Option Jvm.ClassFile.FieldType)) ∈ W0 := W0_of (List.mem_append_right _ (List.mem_of_getElem? (i := 693) (by decide +kernel))) rfl
theorem dX11_checkKind_0 : decode cX11_checkKind 0 = .ok (.iload_n 1, 1) := by decide +kernel
theorem dX11_checkKind_1 : decode cX11_checkKind 1 = .ok (.ifCond .lt 8, 3) := by decide +kernel
theorem dX11_checkKind_4 : decode cX11_checkKind 4 = .ok (.iload_n 1, 1) := by decide +kernel
theorem dX11_checkKind_5 : decode cX11_checkKind 5 = .ok (.iconst 4, 1) := by decide +kernel
theorem dX11_checkKind_6 : decode cX11_checkKind 6 = .ok (.if_icmp .le 14, 3) := by decide +kernel
theorem dX11_checkKind_20 : decode cX11_checkKind 20 = .ok (.return_, 1) := by decide +kernel
theorem dX11_checkKind_9 : decode cX11_checkKind 9 = .ok (.new 98, 3) := by decide +kernel
theorem dX11_checkKind_12 : decode cX11_checkKind 12 = .ok (.dup, 1) := by decide +kernel
theorem dX11_checkKind_13 : decode cX11_checkKind 13 = .ok (.ldc_w 404, 3) := by decide +kernel
theorem dX11_checkKind_16 : decode cX11_checkKind 16 = .ok (.invokespecial 102, 3) := by decide +kernel
theorem dX11_checkKind_19 : decode cX11_checkKind 19 = .ok (.athrow, 1) := by decide +kernel
theorem xat_KindredBooks_102_IllegalArgumentException : ∀ w ∈ vx_atS "KindredBooks" 102 "java/lang/IllegalArgumentException" ["java/lang/RuntimeException", "java/lang/Exception"], w ∈ lw_tbl ∧ (goodWord w || isN w) = true := by decide +kernel
theorem mw_540 : (Jvm.Cond.classLink "KindredBooks" (98 : Nat) "java/lang/IllegalArgumentException") ∈ W0 := W0_of (List.mem_append_right _ (List.mem_of_getElem? (i := 540) (by decide +kernel))) rfl
theorem mw_33 : (Jvm.Cond.initialized "java/lang/IllegalArgumentException") ∈ W0 := W0_of (List.mem_append_right _ (List.mem_of_getElem? (i := 33) (by decide +kernel))) rfl
theorem xgd_KindredBooks_102_98 : ∀ w ∈ Cond.classLink "KindredBooks" 98 "java/lang/IllegalArgumentException" :: Cond.initialized "java/lang/IllegalArgumentException" :: vx_atS "KindredBooks" 102 "java/lang/IllegalArgumentException" ["java/lang/RuntimeException", "java/lang/Exception"], vx_ot w = true := by decide +kernel
theorem z3 {i : Nat} (h : i < 3) : nI i < 3 := (show nI i < nI 3 from nI_lt h (by decide))
set_option maxHeartbeats 4000000 in
set_option maxRecDepth 100000 in
/-- bookOf: no such book -/
theorem c_bookOf_lo (l : Launch) (D : va_G) (dA : Nat → ClassId) (dZ : Nat → Nat) (sz : Nat) (hfl : l.stackTraces = false) (ax : Nat) (b : Int32) (h1 : b < 0) : vx_Met l yX11_bookOf (wz yX11_bookOf cX11_bookOf 2 (some (.object "KindredBooks$Book"))) ({ frames := 6, cells := 1, slots := 6, locals := 100 } : Room) (va_Pc [.ref ax, .int b] (zP D dA dZ [] sz)) zNo (zX "java/lang/IndexOutOfBoundsException" (va_A [] sz)) 1 6 (va_A [] sz) := by
  refine vx_ofW (cc := cX11_bookOf) (maxL := 2) (ret := (some (.object "KindredBooks$Book"))) (by decide) rfl ?_
  intro p e s m args below meth c s₁ B hml hno hv
  obtain ⟨rfl, hsz, hP, hK, hD0, hT, hE⟩ := hv
  have hx := B.exec
  have hb := B.bytes
  have hr := B.returns
  have hw := wz_hw (atoms_spec (ws := wz yX11_bookOf cX11_bookOf 2 (some (.object "KindredBooks$Book"))) B.pre)
  have hown : s.vm.findClass "KindredBooks" = some m.cls := findClass_of_methodNamed B.named
  have hlocks := B.notSynchronized
  have hn := hT.1.use (args := ([.ref ax, .int b] : List Value).toArray)
  subst hsz
  have hD := hD0.self (sz := s.heap.size)
  generalize hAe : va_A [] s.heap.size = A at hD hE ⊢
  have hA : ∀ q : Nat, s.heap.size ≤ q → A q := fun q h => by rw [← hAe]; exact Or.inr h
  have hS : va_S A s.heap s.heap [] := va_S.rf
  replace hP : va_P D zcl [] s.heap := hP
  have hl := lv_entry ([.ref ax, .int b]) (n := 2) (Nat.le_of_ble_eq_true rfl)
  rw [lg_entry_eq]
  generalize (lg_sl ([.ref ax, .int b]) ++ List.replicate (2 - (lg_sl ([.ref ax, .int b])).length) Slot.unset).toArray = ls at hl ⊢
  replace hl : lv_has ls 2 [(0, .ref ax), (1, .int b)] := hl
  refine lv_iload_n hx hb dX11_bookOf_0 rfl (lv_at hl 1 rfl) ?_
  refine lv_if_lt (tgt := 9) hx hb dX11_bookOf_1 (by decide) (fun _ => ?_) (fun zc => absurd h1 zc)
  obtain ⟨sa, hsa⟩ := hT.2.1 ("KindredBooks", 395, "there is no such book") (by decide)
  exact vx_throwSW (own := "KindredBooks") (cls := "java/lang/IndexOutOfBoundsException") (names := ["java/lang/RuntimeException", "java/lang/Exception"]) (XC := zX "java/lang/IndexOutOfBoundsException" A) hx hb hfl hown (by decide) (by decide) (hw _ mw_607) (hw _ mw_29) hsa (z_at hw hT.1 xat_KindredBooks_216_IndexOutOfBoundsException) xgd_KindredBooks_216_212 hE.2.2.2.2.2.1 hE.2.2.2.2.2.2 hS (hl.1.trans hml.symm) dX11_bookOf_9 dX11_bookOf_12 dX11_bookOf_13 dX11_bookOf_16 dX11_bookOf_19 (fun x hx => (hno x hx).elim) (Nat.le_of_ble_eq_true rfl) (Nat.le_of_ble_eq_true rfl) (Nat.le_of_ble_eq_true rfl) (Nat.le_of_ble_eq_true rfl) hlocks (fun t _ h1 h2 => zX_of hS h1 h2) hS.2.2 (Nat.le_of_ble_eq_true rfl) (Nat.le_of_ble_eq_true rfl)
set_option maxHeartbeats 4000000 in
set_option maxRecDepth 100000 in
/-- kinOf: no such book -/
theorem c_kinOf_lo (l : Launch) (D : va_G) (dA : Nat → ClassId) (dZ : Nat → Nat) (sz : Nat) (hfl : l.stackTraces = false) (ax : Nat) (b : Int32) (h1 : b < 0) : vx_Met l yX11_kinOf (wz yX11_kinOf cX11_kinOf 2 (some (.object "KindredBooks$Kin"))) ({ frames := 6, cells := 1, slots := 6, locals := 100 } : Room) (va_Pc [.ref ax, .int b] (zP D dA dZ [] sz)) zNo (zX "java/lang/IndexOutOfBoundsException" (va_A [] sz)) 1 6 (va_A [] sz) := by
  refine vx_ofW (cc := cX11_kinOf) (maxL := 2) (ret := (some (.object "KindredBooks$Kin"))) (by decide) rfl ?_
  intro p e s m args below meth c s₁ B hml hno hv
  obtain ⟨rfl, hsz, hP, hK, hD0, hT, hE⟩ := hv
  have hx := B.exec
  have hb := B.bytes
  have hr := B.returns
  have hw := wz_hw (atoms_spec (ws := wz yX11_kinOf cX11_kinOf 2 (some (.object "KindredBooks$Kin"))) B.pre)
  have hown : s.vm.findClass "KindredBooks" = some m.cls := findClass_of_methodNamed B.named
  have hlocks := B.notSynchronized
  have hn := hT.1.use (args := ([.ref ax, .int b] : List Value).toArray)
  subst hsz
  have hD := hD0.self (sz := s.heap.size)
  generalize hAe : va_A [] s.heap.size = A at hD hE ⊢
  have hA : ∀ q : Nat, s.heap.size ≤ q → A q := fun q h => by rw [← hAe]; exact Or.inr h
  have hS : va_S A s.heap s.heap [] := va_S.rf
  replace hP : va_P D zcl [] s.heap := hP
  have hl := lv_entry ([.ref ax, .int b]) (n := 2) (Nat.le_of_ble_eq_true rfl)
  rw [lg_entry_eq]
  generalize (lg_sl ([.ref ax, .int b]) ++ List.replicate (2 - (lg_sl ([.ref ax, .int b])).length) Slot.unset).toArray = ls at hl ⊢
  replace hl : lv_has ls 2 [(0, .ref ax), (1, .int b)] := hl
  refine lv_iload_n hx hb dX11_kinOf_0 rfl (lv_at hl 1 rfl) ?_
  refine lv_if_lt (tgt := 9) hx hb dX11_kinOf_1 (by decide) (fun _ => ?_) (fun zc => absurd h1 zc)
  obtain ⟨sa, hsa⟩ := hT.2.1 ("KindredBooks", 395, "there is no such book") (by decide)
  exact vx_throwSW (own := "KindredBooks") (cls := "java/lang/IndexOutOfBoundsException") (names := ["java/lang/RuntimeException", "java/lang/Exception"]) (XC := zX "java/lang/IndexOutOfBoundsException" A) hx hb hfl hown (by decide) (by decide) (hw _ mw_607) (hw _ mw_29) hsa (z_at hw hT.1 xat_KindredBooks_216_IndexOutOfBoundsException) xgd_KindredBooks_216_212 hE.2.2.2.2.2.1 hE.2.2.2.2.2.2 hS (hl.1.trans hml.symm) dX11_kinOf_9 dX11_kinOf_12 dX11_kinOf_13 dX11_kinOf_16 dX11_kinOf_19 (fun x hx => (hno x hx).elim) (Nat.le_of_ble_eq_true rfl) (Nat.le_of_ble_eq_true rfl) (Nat.le_of_ble_eq_true rfl) (Nat.le_of_ble_eq_true rfl) hlocks (fun t _ h1 h2 => zX_of hS h1 h2) hS.2.2 (Nat.le_of_ble_eq_true rfl) (Nat.le_of_ble_eq_true rfl)
set_option maxHeartbeats 4000000 in
set_option maxRecDepth 100000 in
/-- bookOf: no such book -/
theorem c_bookOf_hi (l : Launch) (D : va_G) (dA : Nat → ClassId) (dZ : Nat → Nat) (sz : Nat) (hfl : l.stackTraces = false) (ax : Nat) (b : Int32) (h1 : ¬ b < 0) (h2 : 3 ≤ b) : vx_Met l yX11_bookOf (wz yX11_bookOf cX11_bookOf 2 (some (.object "KindredBooks$Book"))) ({ frames := 6, cells := 1, slots := 6, locals := 100 } : Room) (va_Pc [.ref ax, .int b] (zP D dA dZ [] sz)) zNo (zX "java/lang/IndexOutOfBoundsException" (va_A [] sz)) 1 6 (va_A [] sz) := by
  refine vx_ofW (cc := cX11_bookOf) (maxL := 2) (ret := (some (.object "KindredBooks$Book"))) (by decide) rfl ?_
  intro p e s m args below meth c s₁ B hml hno hv
  obtain ⟨rfl, hsz, hP, hK, hD0, hT, hE⟩ := hv
  have hx := B.exec
  have hb := B.bytes
  have hr := B.returns
  have hw := wz_hw (atoms_spec (ws := wz yX11_bookOf cX11_bookOf 2 (some (.object "KindredBooks$Book"))) B.pre)
  have hown : s.vm.findClass "KindredBooks" = some m.cls := findClass_of_methodNamed B.named
  have hlocks := B.notSynchronized
  have hn := hT.1.use (args := ([.ref ax, .int b] : List Value).toArray)
  subst hsz
  have hD := hD0.self (sz := s.heap.size)
  generalize hAe : va_A [] s.heap.size = A at hD hE ⊢
  have hA : ∀ q : Nat, s.heap.size ≤ q → A q := fun q h => by rw [← hAe]; exact Or.inr h
  have hS : va_S A s.heap s.heap [] := va_S.rf
  replace hP : va_P D zcl [] s.heap := hP
  have hl := lv_entry ([.ref ax, .int b]) (n := 2) (Nat.le_of_ble_eq_true rfl)
  rw [lg_entry_eq]
  generalize (lg_sl ([.ref ax, .int b]) ++ List.replicate (2 - (lg_sl ([.ref ax, .int b])).length) Slot.unset).toArray = ls at hl ⊢
  replace hl : lv_has ls 2 [(0, .ref ax), (1, .int b)] := hl
  refine lv_iload_n hx hb dX11_bookOf_0 rfl (lv_at hl 1 rfl) ?_
  refine lv_if_lt (tgt := 9) hx hb dX11_bookOf_1 (by decide) (fun zc => absurd zc h1) (fun _ => ?_)
  refine lv_iload_n hx hb dX11_bookOf_4 rfl (lv_at hl 1 rfl) ?_
  refine lv_iconst (v := 3) hx hb dX11_bookOf_5 (by decide) ?_
  refine lv_icmp_lt (tgt := 20) hx hb dX11_bookOf_6 (by decide) (fun zc => absurd zc (Int32.not_lt.mpr h2)) (fun _ => ?_)
  obtain ⟨sa, hsa⟩ := hT.2.1 ("KindredBooks", 395, "there is no such book") (by decide)
  exact vx_throwSW (own := "KindredBooks") (cls := "java/lang/IndexOutOfBoundsException") (names := ["java/lang/RuntimeException", "java/lang/Exception"]) (XC := zX "java/lang/IndexOutOfBoundsException" A) hx hb hfl hown (by decide) (by decide) (hw _ mw_607) (hw _ mw_29) hsa (z_at hw hT.1 xat_KindredBooks_216_IndexOutOfBoundsException) xgd_KindredBooks_216_212 hE.2.2.2.2.2.1 hE.2.2.2.2.2.2 hS (hl.1.trans hml.symm) dX11_bookOf_9 dX11_bookOf_12 dX11_bookOf_13 dX11_bookOf_16 dX11_bookOf_19 (fun x hx => (hno x hx).elim) (Nat.le_of_ble_eq_true rfl) (Nat.le_of_ble_eq_true rfl) (Nat.le_of_ble_eq_true rfl) (Nat.le_of_ble_eq_true rfl) hlocks (fun t _ h1 h2 => zX_of hS h1 h2) hS.2.2 (Nat.le_of_ble_eq_true rfl) (Nat.le_of_ble_eq_true rfl)
set_option maxHeartbeats 4000000 in
set_option maxRecDepth 100000 in
/-- kinOf: no such book -/
theorem c_kinOf_hi (l : Launch) (D : va_G) (dA : Nat → ClassId) (dZ : Nat → Nat) (sz : Nat) (hfl : l.stackTraces = false) (ax : Nat) (b : Int32) (h1 : ¬ b < 0) (h2 : 3 ≤ b) : vx_Met l yX11_kinOf (wz yX11_kinOf cX11_kinOf 2 (some (.object "KindredBooks$Kin"))) ({ frames := 6, cells := 1, slots := 6, locals := 100 } : Room) (va_Pc [.ref ax, .int b] (zP D dA dZ [] sz)) zNo (zX "java/lang/IndexOutOfBoundsException" (va_A [] sz)) 1 6 (va_A [] sz) := by
  refine vx_ofW (cc := cX11_kinOf) (maxL := 2) (ret := (some (.object "KindredBooks$Kin"))) (by decide) rfl ?_
  intro p e s m args below meth c s₁ B hml hno hv
  obtain ⟨rfl, hsz, hP, hK, hD0, hT, hE⟩ := hv
  have hx := B.exec
  have hb := B.bytes
  have hr := B.returns
  have hw := wz_hw (atoms_spec (ws := wz yX11_kinOf cX11_kinOf 2 (some (.object "KindredBooks$Kin"))) B.pre)
  have hown : s.vm.findClass "KindredBooks" = some m.cls := findClass_of_methodNamed B.named
  have hlocks := B.notSynchronized
  have hn := hT.1.use (args := ([.ref ax, .int b] : List Value).toArray)
  subst hsz
  have hD := hD0.self (sz := s.heap.size)
  generalize hAe : va_A [] s.heap.size = A at hD hE ⊢
  have hA : ∀ q : Nat, s.heap.size ≤ q → A q := fun q h => by rw [← hAe]; exact Or.inr h
  have hS : va_S A s.heap s.heap [] := va_S.rf
  replace hP : va_P D zcl [] s.heap := hP
  have hl := lv_entry ([.ref ax, .int b]) (n := 2) (Nat.le_of_ble_eq_true rfl)
  rw [lg_entry_eq]
  generalize (lg_sl ([.ref ax, .int b]) ++ List.replicate (2 - (lg_sl ([.ref ax, .int b])).length) Slot.unset).toArray = ls at hl ⊢
  replace hl : lv_has ls 2 [(0, .ref ax), (1, .int b)] := hl
  refine lv_iload_n hx hb dX11_kinOf_0 rfl (lv_at hl 1 rfl) ?_
  refine lv_if_lt (tgt := 9) hx hb dX11_kinOf_1 (by decide) (fun zc => absurd zc h1) (fun _ => ?_)
  refine lv_iload_n hx hb dX11_kinOf_4 rfl (lv_at hl 1 rfl) ?_
  refine lv_iconst (v := 3) hx hb dX11_kinOf_5 (by decide) ?_
  refine lv_icmp_lt (tgt := 20) hx hb dX11_kinOf_6 (by decide) (fun zc => absurd zc (Int32.not_lt.mpr h2)) (fun _ => ?_)
  obtain ⟨sa, hsa⟩ := hT.2.1 ("KindredBooks", 395, "there is no such book") (by decide)
  exact vx_throwSW (own := "KindredBooks") (cls := "java/lang/IndexOutOfBoundsException") (names := ["java/lang/RuntimeException", "java/lang/Exception"]) (XC := zX "java/lang/IndexOutOfBoundsException" A) hx hb hfl hown (by decide) (by decide) (hw _ mw_607) (hw _ mw_29) hsa (z_at hw hT.1 xat_KindredBooks_216_IndexOutOfBoundsException) xgd_KindredBooks_216_212 hE.2.2.2.2.2.1 hE.2.2.2.2.2.2 hS (hl.1.trans hml.symm) dX11_kinOf_9 dX11_kinOf_12 dX11_kinOf_13 dX11_kinOf_16 dX11_kinOf_19 (fun x hx => (hno x hx).elim) (Nat.le_of_ble_eq_true rfl) (Nat.le_of_ble_eq_true rfl) (Nat.le_of_ble_eq_true rfl) (Nat.le_of_ble_eq_true rfl) hlocks (fun t _ h1 h2 => zX_of hS h1 h2) hS.2.2 (Nat.le_of_ble_eq_true rfl) (Nat.le_of_ble_eq_true rfl)
set_option maxHeartbeats 4000000 in
set_option maxRecDepth 100000 in
/-- bookOf(i) -/
theorem c_bookOf (l : Launch) (D : va_G) (dA : Nat → ClassId) (dZ : Nat → Nat) (sz : Nat) (ax : Nat) (xt : Nat) (xp : Nat) (xs : Nat) (xl : Nat) (xb : Nat) (xk : Nat) (xm : Nat) (xq : Nat) (xg : Nat) (xf : Nat) (xe : Nat) (i : Nat) (fb : Nat → Option Nat) (bk : Nat) (hi : i < 3) (hf : fb i = some bk) : Met l yX11_bookOf (wz yX11_bookOf cX11_bookOf 2 (some (.object "KindredBooks$Book"))) ({ frames := 0, cells := 0, slots := 0, locals := 0 } : Room) (va_Pc [.ref ax, .int (nI i)] (zP D dA dZ [(ax, .inr (0, [.ref xt, .ref xp, .ref xs, .ref xl, .ref xb, .ref xk, .ref xm, .ref xq, .ref xg, .ref xf, .ref xe, .int 49])), (xb, .inl (dA 6, 3, .inr (.inr (.inr (.inr fb)))))] sz)) (va_Qq (fun (r : Option Nat) (_ : Unit) => r = (some bk)) (fun _ => zB D (va_A [(ax, .inr (0, [.ref xt, .ref xp, .ref xs, .ref xl, .ref xb, .ref xk, .ref xm, .ref xq, .ref xg, .ref xf, .ref xe, .int 49])), (xb, .inl (dA 6, 3, .inr (.inr (.inr (.inr fb)))))] sz) [(ax, .inr (0, [.ref xt, .ref xp, .ref xs, .ref xl, .ref xb, .ref xk, .ref xm, .ref xq, .ref xg, .ref xf, .ref xe, .int 49])), (xb, .inl (dA 6, 3, .inr (.inr (.inr (.inr fb)))))]) (va_A [(ax, .inr (0, [.ref xt, .ref xp, .ref xs, .ref xl, .ref xb, .ref xk, .ref xm, .ref xq, .ref xg, .ref xf, .ref xe, .int 49])), (xb, .inl (dA 6, 3, .inr (.inr (.inr (.inr fb)))))] sz)) 0 0 (va_A [(ax, .inr (0, [.ref xt, .ref xp, .ref xs, .ref xl, .ref xb, .ref xk, .ref xm, .ref xq, .ref xg, .ref xf, .ref xe, .int 49])), (xb, .inl (dA 6, 3, .inr (.inr (.inr (.inr fb)))))] sz) := by
  refine Met.ofW (cc := cX11_bookOf) (maxL := 2) (ret := (some (.object "KindredBooks$Book"))) (by decide) rfl ?_
  intro p e s m args below meth c s₁ B hml hv
  obtain ⟨rfl, hsz, hP, hK, hD0, hT, hE⟩ := hv
  have hx := B.exec
  have hb := B.bytes
  have hr := B.returns
  have hw := wz_hw (atoms_spec (ws := wz yX11_bookOf cX11_bookOf 2 (some (.object "KindredBooks$Book"))) B.pre)
  have hown : s.vm.findClass "KindredBooks" = some m.cls := findClass_of_methodNamed B.named
  have hlocks := B.notSynchronized
  have hn := hT.1.use (args := ([.ref ax, .int (nI i)] : List Value).toArray)
  subst hsz
  have hD := hD0.self (sz := s.heap.size)
  generalize hAe : va_A [(ax, .inr (0, [.ref xt, .ref xp, .ref xs, .ref xl, .ref xb, .ref xk, .ref xm, .ref xq, .ref xg, .ref xf, .ref xe, .int 49])), (xb, .inl (dA 6, 3, .inr (.inr (.inr (.inr fb)))))] s.heap.size = A at hD hE ⊢
  have hA : ∀ q : Nat, s.heap.size ≤ q → A q := fun q h => by rw [← hAe]; exact Or.inr h
  have hS : va_S A s.heap s.heap [] := va_S.rf
  replace hP : va_P D zcl [(ax, .inr (0, [.ref xt, .ref xp, .ref xs, .ref xl, .ref xb, .ref xk, .ref xm, .ref xq, .ref xg, .ref xf, .ref xe, .int 49])), (xb, .inl (dA 6, 3, .inr (.inr (.inr (.inr fb)))))] s.heap := hP
  have hl := lv_entry ([.ref ax, .int (nI i)]) (n := 2) (Nat.le_of_ble_eq_true rfl)
  rw [lg_entry_eq]
  generalize (lg_sl ([.ref ax, .int (nI i)]) ++ List.replicate (2 - (lg_sl ([.ref ax, .int (nI i)])).length) Slot.unset).toArray = ls at hl ⊢
  replace hl : lv_has ls 2 [(0, .ref ax), (1, .int (nI i))] := hl
  refine lv_iload_n hx hb dX11_bookOf_0 rfl (lv_at hl 1 rfl) ?_
  refine lv_if_lt (tgt := 9) hx hb dX11_bookOf_1 (by decide) (fun zc => absurd zc (nI_pos (by omega))) (fun _ => ?_)
  refine lv_iload_n hx hb dX11_bookOf_4 rfl (lv_at hl 1 rfl) ?_
  refine lv_iconst (v := 3) hx hb dX11_bookOf_5 (by decide) ?_
  refine lv_icmp_lt (tgt := 20) hx hb dX11_bookOf_6 (by decide) (fun _ => ?_) (fun zc => absurd (z3 hi) zc)
  refine lv_aload_n hx hb dX11_bookOf_20 rfl (lv_at hl 0 rfl) ?_
  refine va_get (D := D) (ci := 0) (v := .ref xb) (C := "KindredBooks") (T := T_zk0) (N := 12) hx hb hw in_zk0 hown hK hP 0 rfl rfl 4 (by decide) (hw _ mw_350) (fun _ h9 => h9) rfl dX11_bookOf_21 ?_
  refine lv_iload_n hx hb dX11_bookOf_24 rfl (lv_at hl 1 rfl) ?_
  refine va_aldq hx hb hK hP 1 6 rfl rfl (vp_in_nI hi (by omega)) dX11_bookOf_25 ?_
  refine W.eq (g2 := F0 m 26 ls [.ref bk]) (by rw [nI_clamp (by omega), hf]; rfl) ?_
  have hP9 := hP.sub (ws' := [(ax, .inr (0, [.ref xt, .ref xp, .ref xs, .ref xl, .ref xb, .ref xk, .ref xm, .ref xq, .ref xg, .ref xf, .ref xe, .int 49])), (xb, .inl (dA 6, 3, .inr (.inr (.inr (.inr fb)))))]) [0, 1] rfl
  have hD9 := hD.sub (ws' := [(ax, .inr (0, [.ref xt, .ref xp, .ref xs, .ref xl, .ref xb, .ref xk, .ref xm, .ref xq, .ref xg, .ref xf, .ref xe, .int 49])), (xb, .inl (dA 6, 3, .inr (.inr (.inr (.inr fb)))))]) [0, 1] (by decide) rfl
  exact W.aret (v := .ref bk) hx hb hr (Or.inl ⟨_, rfl⟩) (Or.inr ⟨_, rfl⟩) (fun t ht hW => ⟨⟨(some bk), (), rfl, rfl, by rw [ht]; exact hP9, hD9⟩, hS.F ht⟩) hS.2.2 dX11_bookOf_26
set_option maxHeartbeats 4000000 in
set_option maxRecDepth 100000 in
/-- checkRoom: there is -/
theorem c_checkRoom (l : Launch) (D : va_G) (dA : Nat → ClassId) (dZ : Nat → Nat) (sz : Nat) (ax : Nat) (xt : Nat) (xp : Nat) (xs : Nat) (xl : Nat) (xb : Nat) (xk : Nat) (xm : Nat) (xq : Nat) (xg : Nat) (xf : Nat) (xe : Nat) (bl : Nat) (no : Nat) (ro : Nat) : Met l yX11_checkRoom (wz yX11_checkRoom cX11_checkRoom 1 none) ({ frames := 0, cells := 0, slots := 0, locals := 0 } : Room) (va_Pc [.ref ax] (zP D dA dZ [(ax, .inr (0, [.ref xt, .ref xp, .ref xs, .ref xl, .ref xb, .ref xk, .ref xm, .ref xq, .ref xg, .ref xf, .ref xe, .int 49])), (xl, .inr (2, [.ref bl, .ref no, .ref ro, .int 0]))] sz)) (va_Qv (fun (_ : Unit) => True) (fun _ => zB D (va_A [(ax, .inr (0, [.ref xt, .ref xp, .ref xs, .ref xl, .ref xb, .ref xk, .ref xm, .ref xq, .ref xg, .ref xf, .ref xe, .int 49])), (xl, .inr (2, [.ref bl, .ref no, .ref ro, .int 0]))] sz) [(ax, .inr (0, [.ref xt, .ref xp, .ref xs, .ref xl, .ref xb, .ref xk, .ref xm, .ref xq, .ref xg, .ref xf, .ref xe, .int 49])), (xl, .inr (2, [.ref bl, .ref no, .ref ro, .int 0]))]) (va_A [(ax, .inr (0, [.ref xt, .ref xp, .ref xs, .ref xl, .ref xb, .ref xk, .ref xm, .ref xq, .ref xg, .ref xf, .ref xe, .int 49])), (xl, .inr (2, [.ref bl, .ref no, .ref ro, .int 0]))] sz)) 0 0 (va_A [(ax, .inr (0, [.ref xt, .ref xp, .ref xs, .ref xl, .ref xb, .ref xk, .ref xm, .ref xq, .ref xg, .ref xf, .ref xe, .int 49])), (xl, .inr (2, [.ref bl, .ref no, .ref ro, .int 0]))] sz) := by
  refine Met.ofW (cc := cX11_checkRoom) (maxL := 1) (ret := none) (by decide) rfl ?_
  intro p e s m args below meth c s₁ B hml hv
  obtain ⟨rfl, hsz, hP, hK, hD0, hT, hE⟩ := hv
  have hx := B.exec
  have hb := B.bytes
  have hr := B.returns
  have hw := wz_hw (atoms_spec (ws := wz yX11_checkRoom cX11_checkRoom 1 none) B.pre)
  have hown : s.vm.findClass "KindredBooks" = some m.cls := findClass_of_methodNamed B.named
  have hlocks := B.notSynchronized
  have hn := hT.1.use (args := ([.ref ax] : List Value).toArray)
  subst hsz
  have hD := hD0.self (sz := s.heap.size)
  generalize hAe : va_A [(ax, .inr (0, [.ref xt, .ref xp, .ref xs, .ref xl, .ref xb, .ref xk, .ref xm, .ref xq, .ref xg, .ref xf, .ref xe, .int 49])), (xl, .inr (2, [.ref bl, .ref no, .ref ro, .int 0]))] s.heap.size = A at hD hE ⊢
  have hA : ∀ q : Nat, s.heap.size ≤ q → A q := fun q h => by rw [← hAe]; exact Or.inr h
  have hS : va_S A s.heap s.heap [] := va_S.rf
  replace hP : va_P D zcl [(ax, .inr (0, [.ref xt, .ref xp, .ref xs, .ref xl, .ref xb, .ref xk, .ref xm, .ref xq, .ref xg, .ref xf, .ref xe, .int 49])), (xl, .inr (2, [.ref bl, .ref no, .ref ro, .int 0]))] s.heap := hP
  have hl := lv_entry ([.ref ax]) (n := 1) (Nat.le_of_ble_eq_true rfl)
  rw [lg_entry_eq]
  generalize (lg_sl ([.ref ax]) ++ List.replicate (1 - (lg_sl ([.ref ax])).length) Slot.unset).toArray = ls at hl ⊢
  replace hl : lv_has ls 1 [(0, .ref ax)] := hl
  refine lv_aload_n hx hb dX11_checkRoom_0 rfl (lv_at hl 0 rfl) ?_
  refine va_get (D := D) (ci := 0) (v := .ref xl) (C := "KindredBooks") (T := T_zk0) (N := 12) hx hb hw in_zk0 hown hK hP 0 rfl rfl 3 (by decide) (hw _ mw_349) (fun _ h9 => h9) rfl dX11_checkRoom_1 ?_
  refine va_getN (D := D) (ci := 2) (v := .int 0) (C := "KindredBooks$Ledger") (T := T_zk2) (N := 4) hx hb hw in_zk2 hown hK hP 1 rfl rfl 3 (by decide) (hn _ mn_170) (fun _ h9 => h9) rfl dX11_checkRoom_4 ?_
  refine lv_sipush (v := 250) hx hb dX11_checkRoom_7 (by decide) ?_
  refine lv_icmp_lt (tgt := 24) hx hb dX11_checkRoom_10 (by decide) (fun _ => ?_) (fun zc => absurd (by decide) zc)
  have hP9 := hP.sub (ws' := [(ax, .inr (0, [.ref xt, .ref xp, .ref xs, .ref xl, .ref xb, .ref xk, .ref xm, .ref xq, .ref xg, .ref xf, .ref xe, .int 49])), (xl, .inr (2, [.ref bl, .ref no, .ref ro, .int 0]))]) [0, 1] rfl
  have hD9 := hD.sub (ws' := [(ax, .inr (0, [.ref xt, .ref xp, .ref xs, .ref xl, .ref xb, .ref xk, .ref xm, .ref xq, .ref xg, .ref xf, .ref xe, .int 49])), (xl, .inr (2, [.ref bl, .ref no, .ref ro, .int 0]))]) [0, 1] (by decide) rfl
  exact W.vret hx hb hr (fun t ht hW => ⟨⟨(), rfl, trivial, by rw [ht]; exact hP9, hD9⟩, hS.F ht⟩) hS.2.2 dX11_checkRoom_24
set_option maxHeartbeats 4000000 in
set_option maxRecDepth 100000 in
/-- checkKind: a kind -/
theorem c_checkKind (l : Launch) (D : va_G) (dA : Nat → ClassId) (dZ : Nat → Nat) (sz : Nat) (ax : Nat) (b : Int32) (h1 : ¬ b < 0) (h2 : b ≤ 4) : Met l yX11_checkKind (wz yX11_checkKind cX11_checkKind 2 none) ({ frames := 0, cells := 0, slots := 0, locals := 0 } : Room) (va_Pc [.ref ax, .int b] (zP D dA dZ [] sz)) (va_Qv (fun (_ : Unit) => True) (fun _ => zB D (va_A [] sz) []) (va_A [] sz)) 0 0 (va_A [] sz) := by
  refine Met.ofW (cc := cX11_checkKind) (maxL := 2) (ret := none) (by decide) rfl ?_
  intro p e s m args below meth c s₁ B hml hv
  obtain ⟨rfl, hsz, hP, hK, hD0, hT, hE⟩ := hv
  have hx := B.exec
  have hb := B.bytes
  have hr := B.returns
  have hw := wz_hw (atoms_spec (ws := wz yX11_checkKind cX11_checkKind 2 none) B.pre)
  have hown : s.vm.findClass "KindredBooks" = some m.cls := findClass_of_methodNamed B.named
  have hlocks := B.notSynchronized
  have hn := hT.1.use (args := ([.ref ax, .int b] : List Value).toArray)
  subst hsz
  have hD := hD0.self (sz := s.heap.size)
  generalize hAe : va_A [] s.heap.size = A at hD hE ⊢
  have hA : ∀ q : Nat, s.heap.size ≤ q → A q := fun q h => by rw [← hAe]; exact Or.inr h
  have hS : va_S A s.heap s.heap [] := va_S.rf
  replace hP : va_P D zcl [] s.heap := hP
  have hl := lv_entry ([.ref ax, .int b]) (n := 2) (Nat.le_of_ble_eq_true rfl)
  rw [lg_entry_eq]
  generalize (lg_sl ([.ref ax, .int b]) ++ List.replicate (2 - (lg_sl ([.ref ax, .int b])).length) Slot.unset).toArray = ls at hl ⊢
  replace hl : lv_has ls 2 [(0, .ref ax), (1, .int b)] := hl
  refine lv_iload_n hx hb dX11_checkKind_0 rfl (lv_at hl 1 rfl) ?_
  refine lv_if_lt (tgt := 9) hx hb dX11_checkKind_1 (by decide) (fun zc => absurd zc h1) (fun _ => ?_)
  refine lv_iload_n hx hb dX11_checkKind_4 rfl (lv_at hl 1 rfl) ?_
  refine lv_iconst (v := 4) hx hb dX11_checkKind_5 (by decide) ?_
  refine lv_icmp_le (tgt := 20) hx hb dX11_checkKind_6 (by decide) (fun _ => ?_) (fun zc => absurd h2 zc)
  have hP9 := hP.sub (ws' := []) [] rfl
  have hD9 := hD.sub (ws' := []) [] (by decide) rfl
  exact W.vret hx hb hr (fun t ht hW => ⟨⟨(), rfl, trivial, by rw [ht]; exact hP9, hD9⟩, hS.F ht⟩) hS.2.2 dX11_checkKind_20
set_option maxHeartbeats 4000000 in
set_option maxRecDepth 100000 in
/-- checkKind: none -/
theorem c_checkKind_lo (l : Launch) (D : va_G) (dA : Nat → ClassId) (dZ : Nat → Nat) (sz : Nat) (hfl : l.stackTraces = false) (ax : Nat) (b : Int32) (h1 : b < 0) : vx_Met l yX11_checkKind (wz yX11_checkKind cX11_checkKind 2 none) ({ frames := 6, cells := 1, slots := 6, locals := 100 } : Room) (va_Pc [.ref ax, .int b] (zP D dA dZ [] sz)) zNo (zX "java/lang/IllegalArgumentException" (va_A [] sz)) 1 6 (va_A [] sz) := by
  refine vx_ofW (cc := cX11_checkKind) (maxL := 2) (ret := none) (by decide) rfl ?_
  intro p e s m args below meth c s₁ B hml hno hv
  obtain ⟨rfl, hsz, hP, hK, hD0, hT, hE⟩ := hv
  have hx := B.exec
  have hb := B.bytes
  have hr := B.returns
  have hw := wz_hw (atoms_spec (ws := wz yX11_checkKind cX11_checkKind 2 none) B.pre)
  have hown : s.vm.findClass "KindredBooks" = some m.cls := findClass_of_methodNamed B.named
  have hlocks := B.notSynchronized
  have hn := hT.1.use (args := ([.ref ax, .int b] : List Value).toArray)
  subst hsz
  have hD := hD0.self (sz := s.heap.size)
  generalize hAe : va_A [] s.heap.size = A at hD hE ⊢
  have hA : ∀ q : Nat, s.heap.size ≤ q → A q := fun q h => by rw [← hAe]; exact Or.inr h
  have hS : va_S A s.heap s.heap [] := va_S.rf
  replace hP : va_P D zcl [] s.heap := hP
  have hl := lv_entry ([.ref ax, .int b]) (n := 2) (Nat.le_of_ble_eq_true rfl)
  rw [lg_entry_eq]
  generalize (lg_sl ([.ref ax, .int b]) ++ List.replicate (2 - (lg_sl ([.ref ax, .int b])).length) Slot.unset).toArray = ls at hl ⊢
  replace hl : lv_has ls 2 [(0, .ref ax), (1, .int b)] := hl
  refine lv_iload_n hx hb dX11_checkKind_0 rfl (lv_at hl 1 rfl) ?_
  refine lv_if_lt (tgt := 9) hx hb dX11_checkKind_1 (by decide) (fun _ => ?_) (fun zc => absurd h1 zc)
  obtain ⟨sa, hsa⟩ := hT.2.1 ("KindredBooks", 404, "there is no such kind of lines") (by decide)
  exact vx_throwSW (own := "KindredBooks") (cls := "java/lang/IllegalArgumentException") (names := ["java/lang/RuntimeException", "java/lang/Exception"]) (XC := zX "java/lang/IllegalArgumentException" A) hx hb hfl hown (by decide) (by decide) (hw _ mw_540) (hw _ mw_33) hsa (z_at hw hT.1 xat_KindredBooks_102_IllegalArgumentException) xgd_KindredBooks_102_98 hE.2.2.2.2.2.1 hE.2.2.2.2.2.2 hS (hl.1.trans hml.symm) dX11_checkKind_9 dX11_checkKind_12 dX11_checkKind_13 dX11_checkKind_16 dX11_checkKind_19 (fun x hx => (hno x hx).elim) (Nat.le_of_ble_eq_true rfl) (Nat.le_of_ble_eq_true rfl) (Nat.le_of_ble_eq_true rfl) (Nat.le_of_ble_eq_true rfl) hlocks (fun t _ h1 h2 => zX_of hS h1 h2) hS.2.2 (Nat.le_of_ble_eq_true rfl) (Nat.le_of_ble_eq_true rfl)
set_option maxHeartbeats 4000000 in
set_option maxRecDepth 100000 in
/-- checkKind: none -/
theorem c_checkKind_hi (l : Launch) (D : va_G) (dA : Nat → ClassId) (dZ : Nat → Nat) (sz : Nat) (hfl : l.stackTraces = false) (ax : Nat) (b : Int32) (h1 : ¬ b < 0) (h2 : 4 < b) : vx_Met l yX11_checkKind (wz yX11_checkKind cX11_checkKind 2 none) ({ frames := 6, cells := 1, slots := 6, locals := 100 } : Room) (va_Pc [.ref ax, .int b] (zP D dA dZ [] sz)) zNo (zX "java/lang/IllegalArgumentException" (va_A [] sz)) 1 6 (va_A [] sz) := by
  refine vx_ofW (cc := cX11_checkKind) (maxL := 2) (ret := none) (by decide) rfl ?_
  intro p e s m args below meth c s₁ B hml hno hv
  obtain ⟨rfl, hsz, hP, hK, hD0, hT, hE⟩ := hv
  have hx := B.exec
  have hb := B.bytes
  have hr := B.returns
  have hw := wz_hw (atoms_spec (ws := wz yX11_checkKind cX11_checkKind 2 none) B.pre)
  have hown : s.vm.findClass "KindredBooks" = some m.cls := findClass_of_methodNamed B.named
  have hlocks := B.notSynchronized
  have hn := hT.1.use (args := ([.ref ax, .int b] : List Value).toArray)
  subst hsz
  have hD := hD0.self (sz := s.heap.size)
  generalize hAe : va_A [] s.heap.size = A at hD hE ⊢
  have hA : ∀ q : Nat, s.heap.size ≤ q → A q := fun q h => by rw [← hAe]; exact Or.inr h
  have hS : va_S A s.heap s.heap [] := va_S.rf
  replace hP : va_P D zcl [] s.heap := hP
  have hl := lv_entry ([.ref ax, .int b]) (n := 2) (Nat.le_of_ble_eq_true rfl)
  rw [lg_entry_eq]
  generalize (lg_sl ([.ref ax, .int b]) ++ List.replicate (2 - (lg_sl ([.ref ax, .int b])).length) Slot.unset).toArray = ls at hl ⊢
  replace hl : lv_has ls 2 [(0, .ref ax), (1, .int b)] := hl
  refine lv_iload_n hx hb dX11_checkKind_0 rfl (lv_at hl 1 rfl) ?_
  refine lv_if_lt (tgt := 9) hx hb dX11_checkKind_1 (by decide) (fun zc => absurd zc h1) (fun _ => ?_)
  refine lv_iload_n hx hb dX11_checkKind_4 rfl (lv_at hl 1 rfl) ?_
  refine lv_iconst (v := 4) hx hb dX11_checkKind_5 (by decide) ?_
  refine lv_icmp_le (tgt := 20) hx hb dX11_checkKind_6 (by decide) (fun zc => absurd zc (Int32.not_le.mpr h2)) (fun _ => ?_)
  obtain ⟨sa, hsa⟩ := hT.2.1 ("KindredBooks", 404, "there is no such kind of lines") (by decide)
  exact vx_throwSW (own := "KindredBooks") (cls := "java/lang/IllegalArgumentException") (names := ["java/lang/RuntimeException", "java/lang/Exception"]) (XC := zX "java/lang/IllegalArgumentException" A) hx hb hfl hown (by decide) (by decide) (hw _ mw_540) (hw _ mw_33) hsa (z_at hw hT.1 xat_KindredBooks_102_IllegalArgumentException) xgd_KindredBooks_102_98 hE.2.2.2.2.2.1 hE.2.2.2.2.2.2 hS (hl.1.trans hml.symm) dX11_checkKind_9 dX11_checkKind_12 dX11_checkKind_13 dX11_checkKind_16 dX11_checkKind_19 (fun x hx => (hno x hx).elim) (Nat.le_of_ble_eq_true rfl) (Nat.le_of_ble_eq_true rfl) (Nat.le_of_ble_eq_true rfl) (Nat.le_of_ble_eq_true rfl) hlocks (fun t _ h1 h2 => zX_of hS h1 h2) hS.2.2 (Nat.le_of_ble_eq_true rfl) (Nat.le_of_ble_eq_true rfl)
