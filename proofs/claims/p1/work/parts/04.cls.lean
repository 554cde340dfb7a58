abbrev cX11_bookOf : ByteArray := prog_1_method_49_code
def yX11_bookOf : MethodName := ⟨"KindredBooks", "bookOf", "(I)LKindredBooks$Book;"⟩
theorem mw_606 : (Jvm.Cond.code ({ cls := "KindredBooks", name := "bookOf", desc := "(I)LKindredBooks$Book;" } : Jvm.MethodName) prog_1_method_49_code (2 : Nat) (Option.some (Jvm.ClassFile.FieldType.object "KindredBooks$Book"))) ∈ W0 := W0_of (List.mem_append_right _ (List.mem_of_getElem? (i := 606) (by decide +kernel))) rfl
theorem dX11_bookOf_0 : decode cX11_bookOf 0 = .ok (.iload_n 1, 1) := by decide +kernel
theorem dX11_bookOf_1 : decode cX11_bookOf 1 = .ok (.ifCond .lt 8, 3) := by decide +kernel
theorem dX11_bookOf_9 : decode cX11_bookOf 9 = .ok (.new 212, 3) := by decide +kernel
theorem dX11_bookOf_12 : decode cX11_bookOf 12 = .ok (.dup, 1) := by decide +kernel
theorem dX11_bookOf_13 : decode cX11_bookOf 13 = .ok (.ldc_w 395, 3) := by decide +kernel
theorem dX11_bookOf_16 : decode cX11_bookOf 16 = .ok (.invokespecial 216, 3) := by decide +kernel
theorem dX11_bookOf_19 : decode cX11_bookOf 19 = .ok (.athrow, 1) := by decide +kernel
theorem xat_KindredBooks_216_IndexOutOfBoundsException : ∀ w ∈ vx_atS "KindredBooks" 216 "java/lang/IndexOutOfBoundsException" ["java/lang/RuntimeException", "java/lang/Exception"], w ∈ lw_tbl ∧ (goodWord w || isN w) = true := by decide +kernel
theorem mw_607 : (Jvm.Cond.classLink "KindredBooks" (212 : Nat) "java/lang/IndexOutOfBoundsException") ∈ W0 := W0_of (List.mem_append_right _ (List.mem_of_getElem? (i := 607) (by decide +kernel))) rfl
theorem mw_29 : (Jvm.Cond.initialized "java/lang/IndexOutOfBoundsException") ∈ W0 := W0_of (List.mem_append_right _ (List.mem_of_getElem? (i := 29) (by decide +kernel))) rfl
theorem xgd_KindredBooks_216_212 : ∀ w ∈ Cond.classLink "KindredBooks" 212 "java/lang/IndexOutOfBoundsException" :: Cond.initialized "java/lang/IndexOutOfBoundsException" :: vx_atS "KindredBooks" 216 "java/lang/IndexOutOfBoundsException" ["java/lang/RuntimeException", "java/lang/Exception"], vx_ot w = true := by decide +kernel
theorem dX11_bookOf_4 : decode cX11_bookOf 4 = .ok (.iload_n 1, 1) := by decide +kernel
theorem dX11_bookOf_5 : decode cX11_bookOf 5 = .ok (.iconst 3, 1) := by decide +kernel
theorem dX11_bookOf_6 : decode cX11_bookOf 6 = .ok (.if_icmp .lt 14, 3) := by decide +kernel
set_option maxHeartbeats 4000000 in
set_option maxRecDepth 100000 in
/-- bookOf: no such book -/
theorem c_bookOf_lo (l : Launch) (D : va_G) (dA : Nat → ClassId) (dZ : Nat → Nat) (sz : Nat) (hfl : l.stackTraces = false) (ax : Nat) (b : Int32) (h1 : b < 0) : vx_Met l yX11_bookOf (wz yX11_bookOf cX11_bookOf 2 (some (.object "KindredBooks$Book"))) ({ frames := 6, cells := 1, slots := 6, locals := 100 } : Room) (va_Pc [.ref ax, .int b] (zP D dA dZ [] sz)) zNo (zX "java/lang/IndexOutOfBoundsException" (va_A [] sz)) 1 6 (va_A [] sz) := by
  refine vx_ofW (cc := cX11_bookOf) (maxL := 2) (ret := (some (.object "KindredBooks$Book"))) (by decide) rfl ?_
  intro p e s m args below meth c s₁ B hml hno hv
  obtain ⟨rfl, hsz, hP, hK, hD0, hT, hE⟩ := hv
  have hx := B.exec
  have hb := B.bytes
  have hr := B.returns
  have hw := wz_hw (atoms_spec (ws := wz yX11_bookOf cX11_bookOf 2 (some (.object "KindredBooks$Book"))) B.pre)
  have hown : s.vm.findClass "KindredBooks" = some m.cls := findClass_of_methodNamed B.named
  have hlocks := B.notSynchronized
  have hn := hT.1.use (args := ([.ref ax, .int b] : List Value).toArray)
  subst hsz
  have hD := hD0.self (sz := s.heap.size)
  generalize hAe : va_A [] s.heap.size = A at hD hE ⊢
  have hA : ∀ q : Nat, s.heap.size ≤ q → A q := fun q h => by rw [← hAe]; exact Or.inr h
  have hS : va_S A s.heap s.heap [] := va_S.rf
  replace hP : va_P D zcl [] s.heap := hP
  have hl := lv_entry ([.ref ax, .int b]) (n := 2) (Nat.le_of_ble_eq_true rfl)
  rw [lg_entry_eq]
  generalize (lg_sl ([.ref ax, .int b]) ++ List.replicate (2 - (lg_sl ([.ref ax, .int b])).length) Slot.unset).toArray = ls at hl ⊢
  replace hl : lv_has ls 2 [(0, .ref ax), (1, .int b)] := hl
  refine lv_iload_n hx hb dX11_bookOf_0 rfl (lv_at hl 1 rfl) ?_
  refine lv_if_lt (tgt := 9) hx hb dX11_bookOf_1 (by decide) (fun _ => ?_) (fun zc => absurd h1 zc)
  obtain ⟨sa, hsa⟩ := hT.2.1 ("KindredBooks", 395, "there is no such book") (by decide)
  exact vx_throwSW (own := "KindredBooks") (cls := "java/lang/IndexOutOfBoundsException") (names := ["java/lang/RuntimeException", "java/lang/Exception"]) (XC := zX "java/lang/IndexOutOfBoundsException" A) hx hb hfl hown (by decide) (by decide) (hw _ mw_607) (hw _ mw_29) hsa (z_at hw hT.1 xat_KindredBooks_216_IndexOutOfBoundsException) xgd_KindredBooks_216_212 hE.2.2.2.2.2.1 hE.2.2.2.2.2.2 hS (hl.1.trans hml.symm) dX11_bookOf_9 dX11_bookOf_12 dX11_bookOf_13 dX11_bookOf_16 dX11_bookOf_19 (fun x hx => (hno x hx).elim) (Nat.le_of_ble_eq_true rfl) (Nat.le_of_ble_eq_true rfl) (Nat.le_of_ble_eq_true rfl) (Nat.le_of_ble_eq_true rfl) hlocks (fun t _ h1 h2 => zX_of hS h1 h2) hS.2.2 (Nat.le_of_ble_eq_true rfl) (Nat.le_of_ble_eq_true rfl)
set_option maxHeartbeats 4000000 in
set_option maxRecDepth 100000 in
/-- bookOf: no such book -/
theorem c_bookOf_hi (l : Launch) (D : va_G) (dA : Nat → ClassId) (dZ : Nat → Nat) (sz : Nat) (hfl : l.stackTraces = false) (ax : Nat) (b : Int32) (h1 : ¬ b < 0) (h2 : 3 ≤ b) : vx_Met l yX11_bookOf (wz yX11_bookOf cX11_bookOf 2 (some (.object "KindredBooks$Book"))) ({ frames := 6, cells := 1, slots := 6, locals := 100 } : Room) (va_Pc [.ref ax, .int b] (zP D dA dZ [] sz)) zNo (zX "java/lang/IndexOutOfBoundsException" (va_A [] sz)) 1 6 (va_A [] sz) := by
  refine vx_ofW (cc := cX11_bookOf) (maxL := 2) (ret := (some (.object "KindredBooks$Book"))) (by decide) rfl ?_
  intro p e s m args below meth c s₁ B hml hno hv
  obtain ⟨rfl, hsz, hP, hK, hD0, hT, hE⟩ := hv
  have hx := B.exec
  have hb := B.bytes
  have hr := B.returns
  have hw := wz_hw (atoms_spec (ws := wz yX11_bookOf cX11_bookOf 2 (some (.object "KindredBooks$Book"))) B.pre)
  have hown : s.vm.findClass "KindredBooks" = some m.cls := findClass_of_methodNamed B.named
  have hlocks := B.notSynchronized
  have hn := hT.1.use (args := ([.ref ax, .int b] : List Value).toArray)
  subst hsz
  have hD := hD0.self (sz := s.heap.size)
  generalize hAe : va_A [] s.heap.size = A at hD hE ⊢
  have hA : ∀ q : Nat, s.heap.size ≤ q → A q := fun q h => by rw [← hAe]; exact Or.inr h
  have hS : va_S A s.heap s.heap [] := va_S.rf
  replace hP : va_P D zcl [] s.heap := hP
  have hl := lv_entry ([.ref ax, .int b]) (n := 2) (Nat.le_of_ble_eq_true rfl)
  rw [lg_entry_eq]
  generalize (lg_sl ([.ref ax, .int b]) ++ List.replicate (2 - (lg_sl ([.ref ax, .int b])).length) Slot.unset).toArray = ls at hl ⊢
  replace hl : lv_has ls 2 [(0, .ref ax), (1, .int b)] := hl
  refine lv_iload_n hx hb dX11_bookOf_0 rfl (lv_at hl 1 rfl) ?_
  refine lv_if_lt (tgt := 9) hx hb dX11_bookOf_1 (by decide) (fun zc => absurd zc h1) (fun _ => ?_)
  refine lv_iload_n hx hb dX11_bookOf_4 rfl (lv_at hl 1 rfl) ?_
  refine lv_iconst (v := 3) hx hb dX11_bookOf_5 (by decide) ?_
  refine lv_icmp_lt (tgt := 20) hx hb dX11_bookOf_6 (by decide) (fun zc => absurd zc (Int32.not_lt.mpr h2)) (fun _ => ?_)
  obtain ⟨sa, hsa⟩ := hT.2.1 ("KindredBooks", 395, "there is no such book") (by decide)
  exact vx_throwSW (own := "KindredBooks") (cls := "java/lang/IndexOutOfBoundsException") (names := ["java/lang/RuntimeException", "java/lang/Exception"]) (XC := zX "java/lang/IndexOutOfBoundsException" A) hx hb hfl hown (by decide) (by decide) (hw _ mw_607) (hw _ mw_29) hsa (z_at hw hT.1 xat_KindredBooks_216_IndexOutOfBoundsException) xgd_KindredBooks_216_212 hE.2.2.2.2.2.1 hE.2.2.2.2.2.2 hS (hl.1.trans hml.symm) dX11_bookOf_9 dX11_bookOf_12 dX11_bookOf_13 dX11_bookOf_16 dX11_bookOf_19 (fun x hx => (hno x hx).elim) (Nat.le_of_ble_eq_true rfl) (Nat.le_of_ble_eq_true rfl) (Nat.le_of_ble_eq_true rfl) (Nat.le_of_ble_eq_true rfl) hlocks (fun t _ h1 h2 => zX_of hS h1 h2) hS.2.2 (Nat.le_of_ble_eq_true rfl) (Nat.le_of_ble_eq_true rfl)
