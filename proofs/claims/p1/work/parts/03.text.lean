abbrev cX10_empty : ByteArray := prog_12_method_4_code
def yX10_empty : MethodName := ⟨"KindredBooks$Text", "empty", "()V"⟩
theorem mw_390 : (Jvm.Cond.code ({ cls := "KindredBooks$Text", name := "empty", desc := "()V" } : Jvm.MethodName) prog_12_method_4_code (1 : Nat) (Option.none : Option Jvm.ClassFile.FieldType)) ∈ W0 := W0_of (List.mem_append_right _ (List.mem_of_getElem? (i := 390) (by decide +kernel))) rfl
theorem dX10_empty_0 : decode cX10_empty 0 = .ok (.aload_n 0, 1) := by decide +kernel
theorem dX10_empty_1 : decode cX10_empty 1 = .ok (.iconst 0, 1) := by decide +kernel
theorem dX10_empty_2 : decode cX10_empty 2 = .ok (.putfield 15, 3) := by decide +kernel
theorem mw_58 : (Jvm.Cond.fieldLink "KindredBooks$Text" (15 : Nat) "KindredBooks$Text" "length" "I") ∈ W0 := W0_of (List.mem_append_right _ (List.mem_of_getElem? (i := 58) (by decide +kernel))) rfl
theorem dX10_empty_5 : decode cX10_empty 5 = .ok (.return_, 1) := by decide +kernel
abbrev cX10_at : ByteArray := prog_12_method_2_code
def yX10_at : MethodName := ⟨"KindredBooks$Text", "at", "(I)I"⟩
theorem mw_410 : (Jvm.Cond.code ({ cls := "KindredBooks$Text", name := "at", desc := "(I)I" } : Jvm.MethodName) prog_12_method_2_code (2 : Nat) (Option.some Jvm.ClassFile.FieldType.int)) ∈ W0 := W0_of (List.mem_append_right _ (List.mem_of_getElem? (i := 410) (by decide +kernel))) rfl
theorem dX10_at_0 : decode cX10_at 0 = .ok (.iload_n 1, 1) := by decide +kernel
theorem dX10_at_1 : decode cX10_at 1 = .ok (.ifCond .lt 24, 3) := by decide +kernel
theorem dX10_at_25 : decode cX10_at 25 = .ok (.iconst (-1), 1) := by decide +kernel
theorem dX10_at_26 : decode cX10_at 26 = .ok (.ireturn, 1) := by decide +kernel
theorem dX10_at_4 : decode cX10_at 4 = .ok (.iload_n 1, 1) := by decide +kernel
theorem dX10_at_5 : decode cX10_at 5 = .ok (.aload_n 0, 1) := by decide +kernel
theorem dX10_at_6 : decode cX10_at 6 = .ok (.getfield 15, 3) := by decide +kernel
theorem dX10_at_9 : decode cX10_at 9 = .ok (.if_icmp .ge 16, 3) := by decide +kernel
set_option maxHeartbeats 4000000 in
set_option maxRecDepth 100000 in
/-- Text.empty() -/
theorem c_Text_empty (l : Launch) (D : va_G) (dA : Nat → ClassId) (dZ : Nat → Nat) (sz : Nat) (ax : Nat) (ab : Nat) (x : Int32) : Met l yX10_empty (wz yX10_empty cX10_empty 1 none) ({ frames := 0, cells := 0, slots := 0, locals := 0 } : Room) (va_Pc [.ref ax] (zP D dA dZ [(ax, .inr (1, [.ref ab, .int x]))] sz)) (va_Qv (fun (_ : Unit) => True) (fun _ => zB D (va_A [(ax, .inr (1, [.ref ab, .int x]))] sz) [(ax, .inr (1, [.ref ab, .int 0]))]) (va_A [(ax, .inr (1, [.ref ab, .int x]))] sz)) 0 0 (va_A [(ax, .inr (1, [.ref ab, .int x]))] sz) := by
  refine Met.ofW (cc := cX10_empty) (maxL := 1) (ret := none) (by decide) rfl ?_
  intro p e s m args below meth c s₁ B hml hv
  obtain ⟨rfl, hsz, hP, hK, hD0, hT, hE⟩ := hv
  have hx := B.exec
  have hb := B.bytes
  have hr := B.returns
  have hw := wz_hw (atoms_spec (ws := wz yX10_empty cX10_empty 1 none) B.pre)
  have hown : s.vm.findClass "KindredBooks$Text" = some m.cls := findClass_of_methodNamed B.named
  have hlocks := B.notSynchronized
  have hn := hT.1.use (args := ([.ref ax] : List Value).toArray)
  subst hsz
  have hD := hD0.self (sz := s.heap.size)
  generalize hAe : va_A [(ax, .inr (1, [.ref ab, .int x]))] s.heap.size = A at hD hE ⊢
  have hA : ∀ q : Nat, s.heap.size ≤ q → A q := fun q h => by rw [← hAe]; exact Or.inr h
  have hS : va_S A s.heap s.heap [] := va_S.rf
  replace hP : va_P D zcl [(ax, .inr (1, [.ref ab, .int x]))] s.heap := hP
  have hl := lv_entry ([.ref ax]) (n := 1) (Nat.le_of_ble_eq_true rfl)
  rw [lg_entry_eq]
  generalize (lg_sl ([.ref ax]) ++ List.replicate (1 - (lg_sl ([.ref ax])).length) Slot.unset).toArray = ls at hl ⊢
  replace hl : lv_has ls 1 [(0, .ref ax)] := hl
  refine lv_aload_n hx hb dX10_empty_0 rfl (lv_at hl 0 rfl) ?_
  refine lv_iconst (v := 0) hx hb dX10_empty_1 (by decide) ?_
  refine va_put (D := D) (ci := 1) (v := .int 0) (ty := .int) (C := "KindredBooks$Text") (T := T_zk1) (N := 2) hx hb hw in_zk1 ty_zk1 ok_zk1 nm_zk1 hown hK hP hD hS 0 rfl rfl 1 (by decide) (hw _ mw_58) (fun _ h9 => h9) rfl (by decide +kernel) rfl rfl (Nat.le_of_ble_eq_true rfl) dX10_empty_2 (fun H locs hP hD hS => ?_)
  have hP : va_P D zcl [(ax, .inr (1, [.ref ab, .int 0]))] H := hP
  have hD : va_D A [(ax, .inr (1, [.ref ab, .int 0]))] := hD
  have hP9 := hP.sub (ws' := [(ax, .inr (1, [.ref ab, .int 0]))]) [0] rfl
  have hD9 := hD.sub (ws' := [(ax, .inr (1, [.ref ab, .int 0]))]) [0] (by decide) rfl
  exact W.vret hx hb hr (fun t ht hW => ⟨⟨(), rfl, trivial, by rw [ht]; exact hP9, hD9⟩, hS.F ht⟩) hS.2.2 dX10_empty_5
set_option maxHeartbeats 4000000 in
set_option maxRecDepth 100000 in
/-- Text.at() of an empty text -/
theorem c_Text_at0 (l : Launch) (D : va_G) (dA : Nat → ClassId) (dZ : Nat → Nat) (sz : Nat) (ax : Nat) (ab : Nat) (x : Int32) : Met l yX10_at (wz yX10_at cX10_at 2 (some .int)) ({ frames := 0, cells := 0, slots := 0, locals := 0 } : Room) (va_Pc [.ref ax, .int x] (zP D dA dZ [(ax, .inr (1, [.ref ab, .int 0]))] sz)) (va_Qi (fun (r : Int32) (_ : Unit) => r = -1) (fun _ => zB D (va_A [(ax, .inr (1, [.ref ab, .int 0]))] sz) [(ax, .inr (1, [.ref ab, .int 0]))]) (va_A [(ax, .inr (1, [.ref ab, .int 0]))] sz)) 0 0 (va_A [(ax, .inr (1, [.ref ab, .int 0]))] sz) := by
  refine Met.ofW (cc := cX10_at) (maxL := 2) (ret := (some .int)) (by decide) rfl ?_
  intro p e s m args below meth c s₁ B hml hv
  obtain ⟨rfl, hsz, hP, hK, hD0, hT, hE⟩ := hv
  have hx := B.exec
  have hb := B.bytes
  have hr := B.returns
  have hw := wz_hw (atoms_spec (ws := wz yX10_at cX10_at 2 (some .int)) B.pre)
  have hown : s.vm.findClass "KindredBooks$Text" = some m.cls := findClass_of_methodNamed B.named
  have hlocks := B.notSynchronized
  have hn := hT.1.use (args := ([.ref ax, .int x] : List Value).toArray)
  subst hsz
  have hD := hD0.self (sz := s.heap.size)
  generalize hAe : va_A [(ax, .inr (1, [.ref ab, .int 0]))] s.heap.size = A at hD hE ⊢
  have hA : ∀ q : Nat, s.heap.size ≤ q → A q := fun q h => by rw [← hAe]; exact Or.inr h
  have hS : va_S A s.heap s.heap [] := va_S.rf
  replace hP : va_P D zcl [(ax, .inr (1, [.ref ab, .int 0]))] s.heap := hP
  have hl := lv_entry ([.ref ax, .int x]) (n := 2) (Nat.le_of_ble_eq_true rfl)
  rw [lg_entry_eq]
  generalize (lg_sl ([.ref ax, .int x]) ++ List.replicate (2 - (lg_sl ([.ref ax, .int x])).length) Slot.unset).toArray = ls at hl ⊢
  replace hl : lv_has ls 2 [(0, .ref ax), (1, .int x)] := hl
  refine lv_iload_n hx hb dX10_at_0 rfl (lv_at hl 1 rfl) ?_
  refine lv_if_lt (tgt := 25) hx hb dX10_at_1 (by decide) (fun c9 => ?_) (fun c9 => ?_)
  · refine lv_iconst (v := (-1)) hx hb dX10_at_25 (by decide) ?_
    have hP9 := hP.sub (ws' := [(ax, .inr (1, [.ref ab, .int 0]))]) [0] rfl
    have hD9 := hD.sub (ws' := [(ax, .inr (1, [.ref ab, .int 0]))]) [0] (by decide) rfl
    exact W.iret (v := (-1)) hx hb hr (fun t ht hW => ⟨⟨(-1), (), rfl, rfl, by rw [ht]; exact hP9, hD9⟩, hS.F ht⟩) hS.2.2 dX10_at_26
  · refine lv_iload_n hx hb dX10_at_4 rfl (lv_at hl 1 rfl) ?_
    refine lv_aload_n hx hb dX10_at_5 rfl (lv_at hl 0 rfl) ?_
    refine va_get (D := D) (ci := 1) (v := .int 0) (C := "KindredBooks$Text") (T := T_zk1) (N := 2) hx hb hw in_zk1 hown hK hP 0 rfl rfl 1 (by decide) (hw _ mw_58) (fun _ h9 => h9) rfl dX10_at_6 ?_
    refine lv_icmp_ge (tgt := 25) hx hb dX10_at_9 (by decide) (fun _ => ?_) (fun zc => absurd (Int32.not_lt.mp c9) zc)
    refine lv_iconst (v := (-1)) hx hb dX10_at_25 (by decide) ?_
    have hP9 := hP.sub (ws' := [(ax, .inr (1, [.ref ab, .int 0]))]) [0] rfl
    have hD9 := hD.sub (ws' := [(ax, .inr (1, [.ref ab, .int 0]))]) [0] (by decide) rfl
    exact W.iret (v := (-1)) hx hb hr (fun t ht hW => ⟨⟨(-1), (), rfl, rfl, by rw [ht]; exact hP9, hD9⟩, hS.F ht⟩) hS.2.2 dX10_at_26
