abbrev cX5_joinEntries : ByteArray := prog_7_method_3_code
def yX5_joinEntries : MethodName := ⟨"KindredBooks$Kin", "joinEntries", "()V"⟩
theorem mw_874 : (Jvm.Cond.code ({ cls := "KindredBooks$Kin", name := "joinEntries", desc := "()V" } : Jvm.MethodName) prog_7_method_3_code (3 : Nat) (Option.none : Option Jvm.ClassFile.FieldType)) ∈ W0 := W0_of (List.mem_append_right _ (List.mem_of_getElem? (i := 874) (by decide +kernel))) rfl
theorem dX5_joinEntries_2 : decode cX5_joinEntries 2 = .ok (.iload_n 1, 1) := by decide +kernel
theorem dX5_joinEntries_3 : decode cX5_joinEntries 3 = .ok (.sipush 250, 3) := by decide +kernel
theorem dX5_joinEntries_6 : decode cX5_joinEntries 6 = .ok (.if_icmp .ge 38, 3) := by decide +kernel
theorem dX5_joinEntries_44 : decode cX5_joinEntries 44 = .ok (.iconst 0, 1) := by decide +kernel
theorem dX5_joinEntries_9 : decode cX5_joinEntries 9 = .ok (.aload_n 0, 1) := by decide +kernel
theorem dX5_joinEntries_10 : decode cX5_joinEntries 10 = .ok (.getfield 9, 3) := by decide +kernel
theorem mw_306 : (Jvm.Cond.fieldLink "KindredBooks$Kin" (9 : Nat) "KindredBooks$Kin" "group" "[I") ∈ W0 := W0_of (List.mem_append_right _ (List.mem_of_getElem? (i := 306) (by decide +kernel))) rfl
theorem dX5_joinEntries_13 : decode cX5_joinEntries 13 = .ok (.iload_n 1, 1) := by decide +kernel
theorem dX5_joinEntries_14 : decode cX5_joinEntries 14 = .ok (.aload_n 0, 1) := by decide +kernel
theorem dX5_joinEntries_15 : decode cX5_joinEntries 15 = .ok (.getfield 44, 3) := by decide +kernel
theorem mw_304 : (Jvm.Cond.fieldLink "KindredBooks$Kin" (44 : Nat) "KindredBooks$Kin" "book" "LKindredBooks$Book;") ∈ W0 := W0_of (List.mem_append_right _ (List.mem_of_getElem? (i := 304) (by decide +kernel))) rfl
theorem dX5_joinEntries_18 : decode cX5_joinEntries 18 = .ok (.iload_n 1, 1) := by decide +kernel
theorem dX5_joinEntries_19 : decode cX5_joinEntries 19 = .ok (.invokevirtual 77, 3) := by decide +kernel
theorem mw_875 : (Jvm.Cond.methodLink "KindredBooks$Kin" (77 : Nat) ({ cls := "KindredBooks$Book", name := "isLive", desc := "(I)Z" } : Jvm.MethodName)) ∈ W0 := W0_of (List.mem_append_right _ (List.mem_of_getElem? (i := 875) (by decide +kernel))) rfl
theorem dX5_joinEntries_22 : decode cX5_joinEntries 22 = .ok (.ifCond .eq 7, 3) := by decide +kernel
theorem dX5_joinEntries_29 : decode cX5_joinEntries 29 = .ok (.iconst (-1), 1) := by decide +kernel
theorem dX5_joinEntries_30 : decode cX5_joinEntries 30 = .ok (.iastore, 1) := by decide +kernel
theorem dX5_joinEntries_31 : decode cX5_joinEntries 31 = .ok (.aload_n 0, 1) := by decide +kernel
theorem dX5_joinEntries_32 : decode cX5_joinEntries 32 = .ok (.getfield 15, 3) := by decide +kernel
theorem mw_307 : (Jvm.Cond.fieldLink "KindredBooks$Kin" (15 : Nat) "KindredBooks$Kin" "holding" "[Z") ∈ W0 := W0_of (List.mem_append_right _ (List.mem_of_getElem? (i := 307) (by decide +kernel))) rfl
theorem dX5_joinEntries_35 : decode cX5_joinEntries 35 = .ok (.iload_n 1, 1) := by decide +kernel
theorem dX5_joinEntries_36 : decode cX5_joinEntries 36 = .ok (.iconst 0, 1) := by decide +kernel
theorem dX5_joinEntries_37 : decode cX5_joinEntries 37 = .ok (.bastore, 1) := by decide +kernel
theorem dX5_joinEntries_38 : decode cX5_joinEntries 38 = .ok (.iinc 1 1, 3) := by decide +kernel
theorem dX5_joinEntries_41 : decode cX5_joinEntries 41 = .ok (.goto (-39), 3) := by decide +kernel
theorem dX5_joinEntries_0 : decode cX5_joinEntries 0 = .ok (.iconst 0, 1) := by decide +kernel
theorem dX5_joinEntries_1 : decode cX5_joinEntries 1 = .ok (.istore_n 1, 1) := by decide +kernel
theorem dX5_joinEntries_45 : decode cX5_joinEntries 45 = .ok (.istore_n 1, 1) := by decide +kernel
theorem dX5_joinEntries_46 : decode cX5_joinEntries 46 = .ok (.iload_n 1, 1) := by decide +kernel
theorem dX5_joinEntries_47 : decode cX5_joinEntries 47 = .ok (.aload_n 0, 1) := by decide +kernel
theorem dX5_joinEntries_48 : decode cX5_joinEntries 48 = .ok (.getfield 44, 3) := by decide +kernel
theorem dX5_joinEntries_51 : decode cX5_joinEntries 51 = .ok (.getfield 81, 3) := by decide +kernel
theorem mn_274 : (Jvm.Cond.fieldLinkNest "KindredBooks$Kin" (81 : Nat) "KindredBooks$Book" "size" "I" "KindredBooks") ∈ N0 := N0_of (List.mem_append_right _ (List.mem_of_getElem? (i := 274) (by decide +kernel))) rfl
theorem dX5_joinEntries_54 : decode cX5_joinEntries 54 = .ok (.if_icmp .ge 45, 3) := by decide +kernel
theorem dX5_joinEntries_99 : decode cX5_joinEntries 99 = .ok (.return_, 1) := by decide +kernel
abbrev cX5_listGroups : ByteArray := prog_7_method_5_code
def yX5_listGroups : MethodName := ⟨"KindredBooks$Kin", "listGroups", "()V"⟩
theorem mw_898 : (Jvm.Cond.code ({ cls := "KindredBooks$Kin", name := "listGroups", desc := "()V" } : Jvm.MethodName) prog_7_method_5_code (2 : Nat) (Option.none : Option Jvm.ClassFile.FieldType)) ∈ W0 := W0_of (List.mem_append_right _ (List.mem_of_getElem? (i := 898) (by decide +kernel))) rfl
theorem dX5_listGroups_0 : decode cX5_listGroups 0 = .ok (.aload_n 0, 1) := by decide +kernel
theorem dX5_listGroups_1 : decode cX5_listGroups 1 = .ok (.iconst 0, 1) := by decide +kernel
theorem dX5_listGroups_2 : decode cX5_listGroups 2 = .ok (.putfield 66, 3) := by decide +kernel
theorem mw_309 : (Jvm.Cond.fieldLink "KindredBooks$Kin" (66 : Nat) "KindredBooks$Kin" "size" "I") ∈ W0 := W0_of (List.mem_append_right _ (List.mem_of_getElem? (i := 309) (by decide +kernel))) rfl
theorem dX5_listGroups_5 : decode cX5_listGroups 5 = .ok (.iconst 0, 1) := by decide +kernel
theorem dX5_listGroups_6 : decode cX5_listGroups 6 = .ok (.istore_n 1, 1) := by decide +kernel
theorem dX5_listGroups_7 : decode cX5_listGroups 7 = .ok (.iload_n 1, 1) := by decide +kernel
theorem dX5_listGroups_8 : decode cX5_listGroups 8 = .ok (.aload_n 0, 1) := by decide +kernel
theorem dX5_listGroups_9 : decode cX5_listGroups 9 = .ok (.getfield 48, 3) := by decide +kernel
theorem mw_305 : (Jvm.Cond.fieldLink "KindredBooks$Kin" (48 : Nat) "KindredBooks$Kin" "ledger" "LKindredBooks$Ledger;") ∈ W0 := W0_of (List.mem_append_right _ (List.mem_of_getElem? (i := 305) (by decide +kernel))) rfl
theorem dX5_listGroups_12 : decode cX5_listGroups 12 = .ok (.getfield 122, 3) := by decide +kernel
theorem mn_171 : (Jvm.Cond.fieldLinkNest "KindredBooks$Kin" (122 : Nat) "KindredBooks$Ledger" "size" "I" "KindredBooks") ∈ N0 := N0_of (List.mem_append_right _ (List.mem_of_getElem? (i := 171) (by decide +kernel))) rfl
theorem dX5_listGroups_15 : decode cX5_listGroups 15 = .ok (.if_icmp .ge 39, 3) := by decide +kernel
theorem dX5_listGroups_54 : decode cX5_listGroups 54 = .ok (.return_, 1) := by decide +kernel
abbrev cJ7_fill_53178 : ByteArray := prog_47_method_103_code
def yJ7_fill_53178 : MethodName := ⟨"java/util/Arrays", "fill", "([II)V"⟩
theorem mw_905 : (Jvm.Cond.code ({ cls := "java/util/Arrays", name := "fill", desc := "([II)V" } : Jvm.MethodName) prog_47_method_103_code (4 : Nat) (Option.none : Option Jvm.ClassFile.FieldType)) ∈ W0 := W0_of (List.mem_append_right _ (List.mem_of_getElem? (i := 905) (by decide +kernel))) rfl
theorem dJ7_fill_53178_5 : decode cJ7_fill_53178 5 = .ok (.iload_n 2, 1) := by decide +kernel
theorem dJ7_fill_53178_6 : decode cJ7_fill_53178 6 = .ok (.iload_n 3, 1) := by decide +kernel
theorem dJ7_fill_53178_7 : decode cJ7_fill_53178 7 = .ok (.if_icmp .ge 13, 3) := by decide +kernel
theorem dJ7_fill_53178_20 : decode cJ7_fill_53178 20 = .ok (.return_, 1) := by decide +kernel
theorem dJ7_fill_53178_10 : decode cJ7_fill_53178 10 = .ok (.aload_n 0, 1) := by decide +kernel
theorem dJ7_fill_53178_11 : decode cJ7_fill_53178 11 = .ok (.iload_n 2, 1) := by decide +kernel
theorem dJ7_fill_53178_12 : decode cJ7_fill_53178 12 = .ok (.iload_n 1, 1) := by decide +kernel
theorem dJ7_fill_53178_13 : decode cJ7_fill_53178 13 = .ok (.iastore, 1) := by decide +kernel
theorem dJ7_fill_53178_14 : decode cJ7_fill_53178 14 = .ok (.iinc 2 1, 3) := by decide +kernel
theorem dJ7_fill_53178_17 : decode cJ7_fill_53178 17 = .ok (.goto (-12), 3) := by decide +kernel
theorem dJ7_fill_53178_0 : decode cJ7_fill_53178 0 = .ok (.iconst 0, 1) := by decide +kernel
theorem dJ7_fill_53178_1 : decode cJ7_fill_53178 1 = .ok (.istore_n 2, 1) := by decide +kernel
theorem dJ7_fill_53178_2 : decode cJ7_fill_53178 2 = .ok (.aload_n 0, 1) := by decide +kernel
theorem dJ7_fill_53178_3 : decode cJ7_fill_53178 3 = .ok (.arraylength, 1) := by decide +kernel
theorem dJ7_fill_53178_4 : decode cJ7_fill_53178 4 = .ok (.istore_n 3, 1) := by decide +kernel
abbrev cX5_placeLines : ByteArray := prog_7_method_6_code
def yX5_placeLines : MethodName := ⟨"KindredBooks$Kin", "placeLines", "()V"⟩
theorem mw_902 : (Jvm.Cond.code ({ cls := "KindredBooks$Kin", name := "placeLines", desc := "()V" } : Jvm.MethodName) prog_7_method_6_code (4 : Nat) (Option.none : Option Jvm.ClassFile.FieldType)) ∈ W0 := W0_of (List.mem_append_right _ (List.mem_of_getElem? (i := 902) (by decide +kernel))) rfl
theorem dX5_placeLines_63 : decode cX5_placeLines 63 = .ok (.iload_n 1, 1) := by decide +kernel
theorem dX5_placeLines_64 : decode cX5_placeLines 64 = .ok (.aload_n 0, 1) := by decide +kernel
theorem dX5_placeLines_65 : decode cX5_placeLines 65 = .ok (.getfield 25, 3) := by decide +kernel
theorem mw_313 : (Jvm.Cond.fieldLink "KindredBooks$Kin" (25 : Nat) "KindredBooks$Kin" "starts" "[I") ∈ W0 := W0_of (List.mem_append_right _ (List.mem_of_getElem? (i := 313) (by decide +kernel))) rfl
theorem dX5_placeLines_68 : decode cX5_placeLines 68 = .ok (.arraylength, 1) := by decide +kernel
theorem dX5_placeLines_69 : decode cX5_placeLines 69 = .ok (.if_icmp .ge 26, 3) := by decide +kernel
theorem dX5_placeLines_95 : decode cX5_placeLines 95 = .ok (.aload_n 0, 1) := by decide +kernel
theorem dX5_placeLines_72 : decode cX5_placeLines 72 = .ok (.aload_n 0, 1) := by decide +kernel
theorem dX5_placeLines_73 : decode cX5_placeLines 73 = .ok (.getfield 25, 3) := by decide +kernel
theorem dX5_placeLines_76 : decode cX5_placeLines 76 = .ok (.iload_n 1, 1) := by decide +kernel
theorem dX5_placeLines_77 : decode cX5_placeLines 77 = .ok (.dup2, 1) := by decide +kernel
theorem dX5_placeLines_78 : decode cX5_placeLines 78 = .ok (.iaload, 1) := by decide +kernel
theorem dX5_placeLines_79 : decode cX5_placeLines 79 = .ok (.aload_n 0, 1) := by decide +kernel
theorem dX5_placeLines_80 : decode cX5_placeLines 80 = .ok (.getfield 25, 3) := by decide +kernel
theorem dX5_placeLines_83 : decode cX5_placeLines 83 = .ok (.iload_n 1, 1) := by decide +kernel
theorem dX5_placeLines_84 : decode cX5_placeLines 84 = .ok (.iconst 1, 1) := by decide +kernel
theorem dX5_placeLines_85 : decode cX5_placeLines 85 = .ok (.isub, 1) := by decide +kernel
theorem dX5_placeLines_86 : decode cX5_placeLines 86 = .ok (.iaload, 1) := by decide +kernel
theorem dX5_placeLines_87 : decode cX5_placeLines 87 = .ok (.iadd, 1) := by decide +kernel
theorem dX5_placeLines_88 : decode cX5_placeLines 88 = .ok (.iastore, 1) := by decide +kernel
theorem dX5_placeLines_89 : decode cX5_placeLines 89 = .ok (.iinc 1 1, 3) := by decide +kernel
theorem dX5_placeLines_92 : decode cX5_placeLines 92 = .ok (.goto (-29), 3) := by decide +kernel
theorem dX5_placeLines_0 : decode cX5_placeLines 0 = .ok (.aload_n 0, 1) := by decide +kernel
theorem dX5_placeLines_1 : decode cX5_placeLines 1 = .ok (.getfield 25, 3) := by decide +kernel
theorem dX5_placeLines_4 : decode cX5_placeLines 4 = .ok (.iconst 0, 1) := by decide +kernel
theorem dX5_placeLines_5 : decode cX5_placeLines 5 = .ok (.invokestatic 125, 3) := by decide +kernel
theorem mw_903 : (Jvm.Cond.methodLink "KindredBooks$Kin" (125 : Nat) ({ cls := "java/util/Arrays", name := "fill", desc := "([II)V" } : Jvm.MethodName)) ∈ W0 := W0_of (List.mem_append_right _ (List.mem_of_getElem? (i := 903) (by decide +kernel))) rfl
theorem mw_904 : (Jvm.Cond.static ({ cls := "java/util/Arrays", name := "fill", desc := "([II)V" } : Jvm.MethodName)) ∈ W0 := W0_of (List.mem_append_right _ (List.mem_of_getElem? (i := 904) (by decide +kernel))) rfl
theorem mw_25 : (Jvm.Cond.initialized "java/util/Arrays") ∈ W0 := W0_of (List.mem_append_right _ (List.mem_of_getElem? (i := 25) (by decide +kernel))) rfl
theorem dX5_placeLines_8 : decode cX5_placeLines 8 = .ok (.iconst 0, 1) := by decide +kernel
theorem dX5_placeLines_9 : decode cX5_placeLines 9 = .ok (.istore_n 1, 1) := by decide +kernel
theorem dX5_placeLines_10 : decode cX5_placeLines 10 = .ok (.iload_n 1, 1) := by decide +kernel
theorem dX5_placeLines_11 : decode cX5_placeLines 11 = .ok (.aload_n 0, 1) := by decide +kernel
theorem dX5_placeLines_12 : decode cX5_placeLines 12 = .ok (.getfield 48, 3) := by decide +kernel
theorem dX5_placeLines_15 : decode cX5_placeLines 15 = .ok (.getfield 122, 3) := by decide +kernel
theorem dX5_placeLines_18 : decode cX5_placeLines 18 = .ok (.if_icmp .ge 43, 3) := by decide +kernel
theorem dX5_placeLines_61 : decode cX5_placeLines 61 = .ok (.iconst 1, 1) := by decide +kernel
theorem dX5_placeLines_62 : decode cX5_placeLines 62 = .ok (.istore_n 1, 1) := by decide +kernel
theorem dX5_placeLines_96 : decode cX5_placeLines 96 = .ok (.getfield 44, 3) := by decide +kernel
theorem dX5_placeLines_99 : decode cX5_placeLines 99 = .ok (.getfield 81, 3) := by decide +kernel
theorem dX5_placeLines_102 : decode cX5_placeLines 102 = .ok (.iconst 1, 1) := by decide +kernel
theorem dX5_placeLines_103 : decode cX5_placeLines 103 = .ok (.isub, 1) := by decide +kernel
theorem dX5_placeLines_104 : decode cX5_placeLines 104 = .ok (.istore_n 1, 1) := by decide +kernel
theorem dX5_placeLines_105 : decode cX5_placeLines 105 = .ok (.iload_n 1, 1) := by decide +kernel
theorem dX5_placeLines_106 : decode cX5_placeLines 106 = .ok (.ifCond .lt 59, 3) := by decide +kernel
theorem dX5_placeLines_165 : decode cX5_placeLines 165 = .ok (.return_, 1) := by decide +kernel
set_option maxHeartbeats 4000000 in
set_option maxRecDepth 100000 in
/-- the clearing loop of joinEntries -/
theorem lp_joinEntries {p : Program} {l : Launch} {e : Env} {R : Room} {s : State} {m : MethodId} {args : Array Value} {below : List Frame} {meth : Method} {c : Code} {cells slots : Nat} {Q : State → Prop} {A : Nat → Prop} {D : va_G} {dA : Nat → ClassId} {dZ : Nat → Nat} (kn : Nat) (bk : Nat) (xl : Nat) (k1 : Nat) (k2 : Nat) (k3 : Nat) (k4 : Nat) (k5 : Nat) (k6 : Nat) (k7 : Nat) (k8 : Nat) (k9 : Nat) (b1 : Nat) (b2 : Nat) (b3 : Nat) (b4 : Nat) (hd : Int32) (vr : Int32) (fv : Int32) (sz0 : Int32) (hx : p.tables.exec = Jvm.exec) (hb : c.code = cX5_joinEntries) (hml : c.maxLocals = 3) (hown : s.vm.findClass "KindredBooks$Kin" = some m.cls) (hw : ∀ w ∈ W0, w.before args s = true) (hn : ∀ w ∈ N0, w.before args s = true) (hK : va_K D zcl (tz dA) s) (hT : zT s) (hE : zE dZ A s s.heap) (hA : ∀ q : Nat, s.heap.size ≤ q → A q) (hRf : 2 ≤ R.frames) (hRl : 60 ≤ R.locals) (hRc : cells ≤ R.cells) (hRs : slots ≤ R.slots)
    (kk : ∀ (g1 : Nat → Int32) (g2 : Nat → Int32), ∀ (H : Heap) (locs : List Loc), va_P D zcl [(kn, .inr (6, [.ref bk, .ref xl, .ref k1, .ref k2, .ref k3, .int sz0, .ref k4, .ref k5, .ref k6, .ref k7, .ref k8, .ref k9, .int fv])), (bk, .inr (5, [.int hd, .ref xl, .ref b1, .ref b2, .ref b3, .ref b4, .int 0, .int 0, .int vr])), (b3, .inl (dA 1, 250, .inl (fun _ => 0))), (k1, .inl (dA 0, 250, .inl g1)), (k2, .inl (dA 1, 250, .inl g2))] H → va_D A [(kn, .inr (6, [.ref bk, .ref xl, .ref k1, .ref k2, .ref k3, .int sz0, .ref k4, .ref k5, .ref k6, .ref k7, .ref k8, .ref k9, .int fv])), (bk, .inr (5, [.int hd, .ref xl, .ref b1, .ref b2, .ref b3, .ref b4, .int 0, .int 0, .int vr])), (b3, .inl (dA 1, 250, .inl (fun _ => 0))), (k1, .inl (dA 0, 250, .inl g1)), (k2, .inl (dA 1, 250, .inl g2))] → va_S A s.heap H locs → ∀ ls : Array Slot, lv_has ls 3 [(0, .ref kn)] → W p l e R s m args below meth c H locs cells slots Q (F0 m 44 ls [])) :
    ∀ (n i : Nat) (g1 : Nat → Int32) (g2 : Nat → Int32), 0 ≤ i → i ≤ 250 → 250 + 1 ≤ i + n → ∀ (H : Heap) (locs : List Loc), va_P D zcl [(kn, .inr (6, [.ref bk, .ref xl, .ref k1, .ref k2, .ref k3, .int sz0, .ref k4, .ref k5, .ref k6, .ref k7, .ref k8, .ref k9, .int fv])), (bk, .inr (5, [.int hd, .ref xl, .ref b1, .ref b2, .ref b3, .ref b4, .int 0, .int 0, .int vr])), (b3, .inl (dA 1, 250, .inl (fun _ => 0))), (k1, .inl (dA 0, 250, .inl g1)), (k2, .inl (dA 1, 250, .inl g2))] H → va_D A [(kn, .inr (6, [.ref bk, .ref xl, .ref k1, .ref k2, .ref k3, .int sz0, .ref k4, .ref k5, .ref k6, .ref k7, .ref k8, .ref k9, .int fv])), (bk, .inr (5, [.int hd, .ref xl, .ref b1, .ref b2, .ref b3, .ref b4, .int 0, .int 0, .int vr])), (b3, .inl (dA 1, 250, .inl (fun _ => 0))), (k1, .inl (dA 0, 250, .inl g1)), (k2, .inl (dA 1, 250, .inl g2))] → va_S A s.heap H locs → ∀ ls : Array Slot, lv_has ls 3 [(0, .ref kn), (1, .int (nI i))] → W p l e R s m args below meth c H locs cells slots Q (F0 m 2 ls []) := by
  intro n
  induction n with
  | zero =>
    intro i g1 g2 h0 h1 h2
    exact absurd h2 (by omega)
  | succ n ih =>
    intro i g1 g2 h0 h1 h2  H locs hP hD hS ls hl
    refine lv_iload_n hx hb dX5_joinEntries_2 rfl (lv_at hl 1 rfl) ?_
    refine lv_sipush (v := 250) hx hb dX5_joinEntries_3 (by decide) ?_
    refine lv_icmp_ge (tgt := 44) hx hb dX5_joinEntries_6 (by decide) (fun c1 => ?_) (fun c1 => ?_)
    · exact kk g1 g2  H locs (hP.sub [0, 1, 2, 3, 4] rfl) (hD.sub [0, 1, 2, 3, 4] (by decide) rfl) hS ls (lv_sub hl [0] rfl)
    · refine lv_aload_n hx hb dX5_joinEntries_9 rfl (lv_at hl 0 rfl) ?_
      refine va_get (D := D) (ci := 6) (v := .ref k1) (C := "KindredBooks$Kin") (T := T_zk6) (N := 13) hx hb hw in_zk6 hown hK hP 0 rfl rfl 2 (by decide) (hw _ mw_306) (fun _ h9 => h9) rfl dX5_joinEntries_10 ?_
      refine lv_iload_n hx hb dX5_joinEntries_13 rfl (lv_at hl 1 rfl) ?_
      refine lv_aload_n hx hb dX5_joinEntries_14 rfl (lv_at hl 0 rfl) ?_
      refine va_get (D := D) (ci := 6) (v := .ref bk) (C := "KindredBooks$Kin") (T := T_zk6) (N := 13) hx hb hw in_zk6 hown hK hP 0 rfl rfl 0 (by decide) (hw _ mw_304) (fun _ h9 => h9) rfl dX5_joinEntries_15 ?_
      refine lv_iload_n hx hb dX5_joinEntries_18 rfl (lv_at hl 1 rfl) ?_
      have hPc := hP.sub (ws' := [(bk, .inr (5, [.int hd, .ref xl, .ref b1, .ref b2, .ref b3, .ref b4, .int 0, .int 0, .int vr])), (b3, .inl (dA 1, 250, .inl (fun _ => 0)))]) [1, 2] rfl
      have hDc := hD.sub (ws' := [(bk, .inr (5, [.int hd, .ref xl, .ref b1, .ref b2, .ref b3, .ref b4, .int 0, .int 0, .int vr])), (b3, .inl (dA 1, 250, .inl (fun _ => 0)))]) [1, 2] (by decide) rfl
      have hFc := va_free (wc := [(bk, .inr (5, [.int hd, .ref xl, .ref b1, .ref b2, .ref b3, .ref b4, .int 0, .int 0, .int vr])), (b3, .inl (dA 1, 250, .inl (fun _ => 0)))]) hD hS hA [1, 2] rfl
      refine va_calli (va_runV (As := [.int (nI i)]) (rest := [.int (nI i), .ref k1]) ⟨hx, hb, hml, hown, hw⟩ (c_isLive0 l D dA dZ _ bk xl b1 b2 b3 b4 hd vr (nI i)) (z_cwV 1 hw mw_875 mw_674 mw_675 mw_9 mw_676 rfl rfl (by decide +kernel) ⟨Nat.le_trans (Nat.le_of_ble_eq_true rfl) hRf, Nat.le_trans (Nat.le_of_ble_eq_true rfl) hRl⟩) (zPreV hPc hK hDc hT hE hS hFc (va_recv hK hP (ci := 5) (q0 := 1) rfl rfl)) rfl rfl hl.1 rfl (lv_room (Nat.le_of_ble_eq_true rfl)) dX5_joinEntries_19 ⟨hRc, hRs⟩) hS (fun q _ h => hFc q h) hFc (fun r_1 u t H1 locs ht hvm hpo hB hz1 hk1 hS => ?_)
      obtain ⟨hP1, hD1⟩ := hB
      rw [ht] at hP1
      obtain ⟨hP, hD⟩ := va_join (wr := [(kn, .inr (6, [.ref bk, .ref xl, .ref k1, .ref k2, .ref k3, .int sz0, .ref k4, .ref k5, .ref k6, .ref k7, .ref k8, .ref k9, .int fv])), (k1, .inl (dA 0, 250, .inl g1)), (k2, .inl (dA 1, 250, .inl g2))]) (w1 := [(bk, .inr (5, [.int hd, .ref xl, .ref b1, .ref b2, .ref b3, .ref b4, .int 0, .int 0, .int vr])), (b3, .inl (dA 1, 250, .inl (fun _ => 0)))]) hP hD [1, 2] [0, 3, 4] rfl rfl (by decide) (by decide) hk1 hFc hP1 hD1
      generalize H1 = H at hP hS ⊢
      have hP : va_P D zcl [(kn, .inr (6, [.ref bk, .ref xl, .ref k1, .ref k2, .ref k3, .int sz0, .ref k4, .ref k5, .ref k6, .ref k7, .ref k8, .ref k9, .int fv])), (k1, .inl (dA 0, 250, .inl g1)), (k2, .inl (dA 1, 250, .inl g2)), (bk, .inr (5, [.int hd, .ref xl, .ref b1, .ref b2, .ref b3, .ref b4, .int 0, .int 0, .int vr])), (b3, .inl (dA 1, 250, .inl (fun _ => 0)))] H := hP
      have hD : va_D A [(kn, .inr (6, [.ref bk, .ref xl, .ref k1, .ref k2, .ref k3, .int sz0, .ref k4, .ref k5, .ref k6, .ref k7, .ref k8, .ref k9, .int fv])), (k1, .inl (dA 0, 250, .inl g1)), (k2, .inl (dA 1, 250, .inl g2)), (bk, .inr (5, [.int hd, .ref xl, .ref b1, .ref b2, .ref b3, .ref b4, .int 0, .int 0, .int vr])), (b3, .inl (dA 1, 250, .inl (fun _ => 0)))] := hD
      obtain rfl : r_1 = 0 := hpo
      refine lv_if_eq (tgt := 29) hx hb dX5_joinEntries_22 (by decide) (fun _ => ?_) (fun zc => absurd (by decide) zc)
      refine lv_iconst (v := (-1)) hx hb dX5_joinEntries_29 (by decide) ?_
      refine va_iast hx hb hK hP hD hS 1 0 rfl rfl (vp_in_nI (z_clt (N := 250) rfl (by omega) c1) (by omega)) dX5_joinEntries_30 (fun H locs hP hD hS => ?_)
      obtain ⟨g3, eg3⟩ : ∃ g, g = (upd g1 (nI i).toNatClampNeg (-1)) := ⟨_, rfl⟩
      rw [← eg3] at hP hD
      have hP : va_P D zcl [(kn, .inr (6, [.ref bk, .ref xl, .ref k1, .ref k2, .ref k3, .int sz0, .ref k4, .ref k5, .ref k6, .ref k7, .ref k8, .ref k9, .int fv])), (k1, .inl (dA 0, 250, .inl g3)), (k2, .inl (dA 1, 250, .inl g2)), (bk, .inr (5, [.int hd, .ref xl, .ref b1, .ref b2, .ref b3, .ref b4, .int 0, .int 0, .int vr])), (b3, .inl (dA 1, 250, .inl (fun _ => 0)))] H := hP
      have hD : va_D A [(kn, .inr (6, [.ref bk, .ref xl, .ref k1, .ref k2, .ref k3, .int sz0, .ref k4, .ref k5, .ref k6, .ref k7, .ref k8, .ref k9, .int fv])), (k1, .inl (dA 0, 250, .inl g3)), (k2, .inl (dA 1, 250, .inl g2)), (bk, .inr (5, [.int hd, .ref xl, .ref b1, .ref b2, .ref b3, .ref b4, .int 0, .int 0, .int vr])), (b3, .inl (dA 1, 250, .inl (fun _ => 0)))] := hD
      refine lv_aload_n hx hb dX5_joinEntries_31 rfl (lv_at hl 0 rfl) ?_
      refine va_get (D := D) (ci := 6) (v := .ref k2) (C := "KindredBooks$Kin") (T := T_zk6) (N := 13) hx hb hw in_zk6 hown hK hP 0 rfl rfl 3 (by decide) (hw _ mw_307) (fun _ h9 => h9) rfl dX5_joinEntries_32 ?_
      refine lv_iload_n hx hb dX5_joinEntries_35 rfl (lv_at hl 1 rfl) ?_
      refine lv_iconst (v := 0) hx hb dX5_joinEntries_36 (by decide) ?_
      refine va_zast hx hb hK hP hD hS 2 1 rfl rfl (vp_in_nI (z_clt (N := 250) rfl (by omega) c1) (by omega)) dX5_joinEntries_37 (fun H locs hP hD hS => ?_)
      obtain ⟨g4, eg4⟩ : ∃ g, g = (upd g2 (nI i).toNatClampNeg (vp_nar .boolean 0)) := ⟨_, rfl⟩
      rw [← eg4] at hP hD
      have hP : va_P D zcl [(kn, .inr (6, [.ref bk, .ref xl, .ref k1, .ref k2, .ref k3, .int sz0, .ref k4, .ref k5, .ref k6, .ref k7, .ref k8, .ref k9, .int fv])), (k1, .inl (dA 0, 250, .inl g3)), (k2, .inl (dA 1, 250, .inl g4)), (bk, .inr (5, [.int hd, .ref xl, .ref b1, .ref b2, .ref b3, .ref b4, .int 0, .int 0, .int vr])), (b3, .inl (dA 1, 250, .inl (fun _ => 0)))] H := hP
      have hD : va_D A [(kn, .inr (6, [.ref bk, .ref xl, .ref k1, .ref k2, .ref k3, .int sz0, .ref k4, .ref k5, .ref k6, .ref k7, .ref k8, .ref k9, .int fv])), (k1, .inl (dA 0, 250, .inl g3)), (k2, .inl (dA 1, 250, .inl g4)), (bk, .inr (5, [.int hd, .ref xl, .ref b1, .ref b2, .ref b3, .ref b4, .int 0, .int 0, .int vr])), (b3, .inl (dA 1, 250, .inl (fun _ => 0)))] := hD
      refine lv_iinc (v := (nI (i + 1))) (lv' := [(1, .int (nI (i + 1))), (0, .ref kn)]) hx hb dX5_joinEntries_38 hl (k := 1) rfl (z_inc i) (by decide) rfl (fun ls hl => ?_)
      refine lv_goto (tgt := 2) hx hb dX5_joinEntries_41 (by decide) ?_
      exact ih (i + 1) g3 g4 (by omega) (z_clt (N := 250) rfl (by omega) c1) (by omega)  H locs (hP.sub [0, 3, 4, 1, 2] rfl) (hD.sub [0, 3, 4, 1, 2] (by decide) rfl) hS ls (lv_sub hl [1, 0] rfl)
set_option maxHeartbeats 4000000 in
set_option maxRecDepth 100000 in
/-- joinEntries of a fresh book -/
theorem c_joinEntries0 (l : Launch) (D : va_G) (dA : Nat → ClassId) (dZ : Nat → Nat) (sz : Nat) (kn : Nat) (bk : Nat) (xl : Nat) (k1 : Nat) (k2 : Nat) (k3 : Nat) (k4 : Nat) (k5 : Nat) (k6 : Nat) (k7 : Nat) (k8 : Nat) (k9 : Nat) (b1 : Nat) (b2 : Nat) (b3 : Nat) (b4 : Nat) (hd : Int32) (vr : Int32) (fv : Int32) (sz0 : Int32) (f1 : Nat → Int32) (f2 : Nat → Int32) : Met l yX5_joinEntries (wz yX5_joinEntries cX5_joinEntries 3 none) ({ frames := 2, cells := 0, slots := 0, locals := 60 } : Room) (va_Pc [.ref kn] (zP D dA dZ [(kn, .inr (6, [.ref bk, .ref xl, .ref k1, .ref k2, .ref k3, .int sz0, .ref k4, .ref k5, .ref k6, .ref k7, .ref k8, .ref k9, .int fv])), (bk, .inr (5, [.int hd, .ref xl, .ref b1, .ref b2, .ref b3, .ref b4, .int 0, .int 0, .int vr])), (b3, .inl (dA 1, 250, .inl (fun _ => 0))), (k1, .inl (dA 0, 250, .inl f1)), (k2, .inl (dA 1, 250, .inl f2))] sz)) (va_Qv (fun (u : (Nat → Int32) × (Nat → Int32)) => True) (fun u => zB D (va_A [(kn, .inr (6, [.ref bk, .ref xl, .ref k1, .ref k2, .ref k3, .int sz0, .ref k4, .ref k5, .ref k6, .ref k7, .ref k8, .ref k9, .int fv])), (bk, .inr (5, [.int hd, .ref xl, .ref b1, .ref b2, .ref b3, .ref b4, .int 0, .int 0, .int vr])), (b3, .inl (dA 1, 250, .inl (fun _ => 0))), (k1, .inl (dA 0, 250, .inl f1)), (k2, .inl (dA 1, 250, .inl f2))] sz) [(kn, .inr (6, [.ref bk, .ref xl, .ref k1, .ref k2, .ref k3, .int sz0, .ref k4, .ref k5, .ref k6, .ref k7, .ref k8, .ref k9, .int fv])), (bk, .inr (5, [.int hd, .ref xl, .ref b1, .ref b2, .ref b3, .ref b4, .int 0, .int 0, .int vr])), (b3, .inl (dA 1, 250, .inl (fun _ => 0))), (k1, .inl (dA 0, 250, .inl u.1)), (k2, .inl (dA 1, 250, .inl u.2))]) (va_A [(kn, .inr (6, [.ref bk, .ref xl, .ref k1, .ref k2, .ref k3, .int sz0, .ref k4, .ref k5, .ref k6, .ref k7, .ref k8, .ref k9, .int fv])), (bk, .inr (5, [.int hd, .ref xl, .ref b1, .ref b2, .ref b3, .ref b4, .int 0, .int 0, .int vr])), (b3, .inl (dA 1, 250, .inl (fun _ => 0))), (k1, .inl (dA 0, 250, .inl f1)), (k2, .inl (dA 1, 250, .inl f2))] sz)) 0 0 (va_A [(kn, .inr (6, [.ref bk, .ref xl, .ref k1, .ref k2, .ref k3, .int sz0, .ref k4, .ref k5, .ref k6, .ref k7, .ref k8, .ref k9, .int fv])), (bk, .inr (5, [.int hd, .ref xl, .ref b1, .ref b2, .ref b3, .ref b4, .int 0, .int 0, .int vr])), (b3, .inl (dA 1, 250, .inl (fun _ => 0))), (k1, .inl (dA 0, 250, .inl f1)), (k2, .inl (dA 1, 250, .inl f2))] sz) := by
  refine Met.ofW (cc := cX5_joinEntries) (maxL := 3) (ret := none) (by decide) rfl ?_
  intro p e s m args below meth c s₁ B hml hv
  obtain ⟨rfl, hsz, hP, hK, hD0, hT, hE⟩ := hv
  have hx := B.exec
  have hb := B.bytes
  have hr := B.returns
  have hw := wz_hw (atoms_spec (ws := wz yX5_joinEntries cX5_joinEntries 3 none) B.pre)
  have hown : s.vm.findClass "KindredBooks$Kin" = some m.cls := findClass_of_methodNamed B.named
  have hlocks := B.notSynchronized
  have hn := hT.1.use (args := ([.ref kn] : List Value).toArray)
  subst hsz
  have hD := hD0.self (sz := s.heap.size)
  generalize hAe : va_A [(kn, .inr (6, [.ref bk, .ref xl, .ref k1, .ref k2, .ref k3, .int sz0, .ref k4, .ref k5, .ref k6, .ref k7, .ref k8, .ref k9, .int fv])), (bk, .inr (5, [.int hd, .ref xl, .ref b1, .ref b2, .ref b3, .ref b4, .int 0, .int 0, .int vr])), (b3, .inl (dA 1, 250, .inl (fun _ => 0))), (k1, .inl (dA 0, 250, .inl f1)), (k2, .inl (dA 1, 250, .inl f2))] s.heap.size = A at hD hE ⊢
  have hA : ∀ q : Nat, s.heap.size ≤ q → A q := fun q h => by rw [← hAe]; exact Or.inr h
  have hS : va_S A s.heap s.heap [] := va_S.rf
  replace hP : va_P D zcl [(kn, .inr (6, [.ref bk, .ref xl, .ref k1, .ref k2, .ref k3, .int sz0, .ref k4, .ref k5, .ref k6, .ref k7, .ref k8, .ref k9, .int fv])), (bk, .inr (5, [.int hd, .ref xl, .ref b1, .ref b2, .ref b3, .ref b4, .int 0, .int 0, .int vr])), (b3, .inl (dA 1, 250, .inl (fun _ => 0))), (k1, .inl (dA 0, 250, .inl f1)), (k2, .inl (dA 1, 250, .inl f2))] s.heap := hP
  have hl := lv_entry ([.ref kn]) (n := 3) (Nat.le_of_ble_eq_true rfl)
  rw [lg_entry_eq]
  generalize (lg_sl ([.ref kn]) ++ List.replicate (3 - (lg_sl ([.ref kn])).length) Slot.unset).toArray = ls at hl ⊢
  replace hl : lv_has ls 3 [(0, .ref kn)] := hl
  refine lv_iconst (v := 0) hx hb dX5_joinEntries_0 (by decide) ?_
  refine lv_istore_n (lv' := [(1, .int 0), (0, .ref kn)]) hx hb dX5_joinEntries_1 rfl hl (by decide) rfl (fun ls hl => ?_)
  refine lp_joinEntries kn bk xl k1 k2 k3 k4 k5 k6 k7 k8 k9 b1 b2 b3 b4 hd vr fv sz0 hx hb hml hown hw hn hK hT hE hA (Nat.le_of_ble_eq_true rfl) (Nat.le_of_ble_eq_true rfl) (Nat.le_of_ble_eq_true rfl) (Nat.le_of_ble_eq_true rfl) (fun g1 g2  H locs hP hD hS ls hl => ?_) (250 + 1) 0 f1 f2 (by omega) (by omega) (by omega)  _ _ (hP.sub [0, 1, 2, 3, 4] rfl) (hD.sub [0, 1, 2, 3, 4] (by decide) rfl) hS ls (lv_sub hl [1, 0] rfl)
  refine lv_iconst (v := 0) hx hb dX5_joinEntries_44 (by decide) ?_
  refine lv_istore_n (lv' := [(1, .int 0), (0, .ref kn)]) hx hb dX5_joinEntries_45 rfl hl (by decide) rfl (fun ls hl => ?_)
  refine lv_iload_n hx hb dX5_joinEntries_46 rfl (lv_at hl 0 rfl) ?_
  refine lv_aload_n hx hb dX5_joinEntries_47 rfl (lv_at hl 1 rfl) ?_
  refine va_get (D := D) (ci := 6) (v := .ref bk) (C := "KindredBooks$Kin") (T := T_zk6) (N := 13) hx hb hw in_zk6 hown hK hP 0 rfl rfl 0 (by decide) (hw _ mw_304) (fun _ h9 => h9) rfl dX5_joinEntries_48 ?_
  refine va_getN (D := D) (ci := 5) (v := .int 0) (C := "KindredBooks$Book") (T := T_zk5) (N := 9) hx hb hw in_zk5 hown hK hP 1 rfl rfl 6 (by decide) (hn _ mn_274) (fun _ h9 => h9) rfl dX5_joinEntries_51 ?_
  refine lv_icmp_ge (tgt := 99) hx hb dX5_joinEntries_54 (by decide) (fun _ => ?_) (fun zc => absurd (by decide) zc)
  have hP9 := hP.sub (ws' := [(kn, .inr (6, [.ref bk, .ref xl, .ref k1, .ref k2, .ref k3, .int sz0, .ref k4, .ref k5, .ref k6, .ref k7, .ref k8, .ref k9, .int fv])), (bk, .inr (5, [.int hd, .ref xl, .ref b1, .ref b2, .ref b3, .ref b4, .int 0, .int 0, .int vr])), (b3, .inl (dA 1, 250, .inl (fun _ => 0))), (k1, .inl (dA 0, 250, .inl g1)), (k2, .inl (dA 1, 250, .inl g2))]) [0, 1, 2, 3, 4] rfl
  have hD9 := hD.sub (ws' := [(kn, .inr (6, [.ref bk, .ref xl, .ref k1, .ref k2, .ref k3, .int sz0, .ref k4, .ref k5, .ref k6, .ref k7, .ref k8, .ref k9, .int fv])), (bk, .inr (5, [.int hd, .ref xl, .ref b1, .ref b2, .ref b3, .ref b4, .int 0, .int 0, .int vr])), (b3, .inl (dA 1, 250, .inl (fun _ => 0))), (k1, .inl (dA 0, 250, .inl g1)), (k2, .inl (dA 1, 250, .inl g2))]) [0, 1, 2, 3, 4] (by decide) rfl
  exact W.vret hx hb hr (fun t ht hW => ⟨⟨(g1, g2), rfl, trivial, by rw [ht]; exact hP9, hD9⟩, hS.F ht⟩) hS.2.2 dX5_joinEntries_99
set_option maxHeartbeats 4000000 in
set_option maxRecDepth 100000 in
/-- listGroups of an empty ledger -/
theorem c_listGroups0 (l : Launch) (D : va_G) (dA : Nat → ClassId) (dZ : Nat → Nat) (sz : Nat) (kn : Nat) (bk : Nat) (xl : Nat) (k1 : Nat) (k2 : Nat) (k3 : Nat) (k4 : Nat) (k5 : Nat) (k6 : Nat) (k7 : Nat) (k8 : Nat) (k9 : Nat) (bl : Nat) (no : Nat) (ro : Nat) (fv : Int32) (sz0 : Int32) : Met l yX5_listGroups (wz yX5_listGroups cX5_listGroups 2 none) ({ frames := 0, cells := 0, slots := 0, locals := 0 } : Room) (va_Pc [.ref kn] (zP D dA dZ [(kn, .inr (6, [.ref bk, .ref xl, .ref k1, .ref k2, .ref k3, .int sz0, .ref k4, .ref k5, .ref k6, .ref k7, .ref k8, .ref k9, .int fv])), (xl, .inr (2, [.ref bl, .ref no, .ref ro, .int 0]))] sz)) (va_Qv (fun (_ : Unit) => True) (fun _ => zB D (va_A [(kn, .inr (6, [.ref bk, .ref xl, .ref k1, .ref k2, .ref k3, .int sz0, .ref k4, .ref k5, .ref k6, .ref k7, .ref k8, .ref k9, .int fv])), (xl, .inr (2, [.ref bl, .ref no, .ref ro, .int 0]))] sz) [(kn, .inr (6, [.ref bk, .ref xl, .ref k1, .ref k2, .ref k3, .int 0, .ref k4, .ref k5, .ref k6, .ref k7, .ref k8, .ref k9, .int fv])), (xl, .inr (2, [.ref bl, .ref no, .ref ro, .int 0]))]) (va_A [(kn, .inr (6, [.ref bk, .ref xl, .ref k1, .ref k2, .ref k3, .int sz0, .ref k4, .ref k5, .ref k6, .ref k7, .ref k8, .ref k9, .int fv])), (xl, .inr (2, [.ref bl, .ref no, .ref ro, .int 0]))] sz)) 0 0 (va_A [(kn, .inr (6, [.ref bk, .ref xl, .ref k1, .ref k2, .ref k3, .int sz0, .ref k4, .ref k5, .ref k6, .ref k7, .ref k8, .ref k9, .int fv])), (xl, .inr (2, [.ref bl, .ref no, .ref ro, .int 0]))] sz) := by
  refine Met.ofW (cc := cX5_listGroups) (maxL := 2) (ret := none) (by decide) rfl ?_
  intro p e s m args below meth c s₁ B hml hv
  obtain ⟨rfl, hsz, hP, hK, hD0, hT, hE⟩ := hv
  have hx := B.exec
  have hb := B.bytes
  have hr := B.returns
  have hw := wz_hw (atoms_spec (ws := wz yX5_listGroups cX5_listGroups 2 none) B.pre)
  have hown : s.vm.findClass "KindredBooks$Kin" = some m.cls := findClass_of_methodNamed B.named
  have hlocks := B.notSynchronized
  have hn := hT.1.use (args := ([.ref kn] : List Value).toArray)
  subst hsz
  have hD := hD0.self (sz := s.heap.size)
  generalize hAe : va_A [(kn, .inr (6, [.ref bk, .ref xl, .ref k1, .ref k2, .ref k3, .int sz0, .ref k4, .ref k5, .ref k6, .ref k7, .ref k8, .ref k9, .int fv])), (xl, .inr (2, [.ref bl, .ref no, .ref ro, .int 0]))] s.heap.size = A at hD hE ⊢
  have hA : ∀ q : Nat, s.heap.size ≤ q → A q := fun q h => by rw [← hAe]; exact Or.inr h
  have hS : va_S A s.heap s.heap [] := va_S.rf
  replace hP : va_P D zcl [(kn, .inr (6, [.ref bk, .ref xl, .ref k1, .ref k2, .ref k3, .int sz0, .ref k4, .ref k5, .ref k6, .ref k7, .ref k8, .ref k9, .int fv])), (xl, .inr (2, [.ref bl, .ref no, .ref ro, .int 0]))] s.heap := hP
  have hl := lv_entry ([.ref kn]) (n := 2) (Nat.le_of_ble_eq_true rfl)
  rw [lg_entry_eq]
  generalize (lg_sl ([.ref kn]) ++ List.replicate (2 - (lg_sl ([.ref kn])).length) Slot.unset).toArray = ls at hl ⊢
  replace hl : lv_has ls 2 [(0, .ref kn)] := hl
  refine lv_aload_n hx hb dX5_listGroups_0 rfl (lv_at hl 0 rfl) ?_
  refine lv_iconst (v := 0) hx hb dX5_listGroups_1 (by decide) ?_
  refine va_put (D := D) (ci := 6) (v := .int 0) (ty := .int) (C := "KindredBooks$Kin") (T := T_zk6) (N := 13) hx hb hw in_zk6 ty_zk6 ok_zk6 nm_zk6 hown hK hP hD hS 0 rfl rfl 5 (by decide) (hw _ mw_309) (fun _ h9 => h9) rfl (by decide +kernel) rfl rfl (Nat.le_of_ble_eq_true rfl) dX5_listGroups_2 (fun H locs hP hD hS => ?_)
  have hP : va_P D zcl [(kn, .inr (6, [.ref bk, .ref xl, .ref k1, .ref k2, .ref k3, .int 0, .ref k4, .ref k5, .ref k6, .ref k7, .ref k8, .ref k9, .int fv])), (xl, .inr (2, [.ref bl, .ref no, .ref ro, .int 0]))] H := hP
  have hD : va_D A [(kn, .inr (6, [.ref bk, .ref xl, .ref k1, .ref k2, .ref k3, .int 0, .ref k4, .ref k5, .ref k6, .ref k7, .ref k8, .ref k9, .int fv])), (xl, .inr (2, [.ref bl, .ref no, .ref ro, .int 0]))] := hD
  refine lv_iconst (v := 0) hx hb dX5_listGroups_5 (by decide) ?_
  refine lv_istore_n (lv' := [(1, .int 0), (0, .ref kn)]) hx hb dX5_listGroups_6 rfl hl (by decide) rfl (fun ls hl => ?_)
  refine lv_iload_n hx hb dX5_listGroups_7 rfl (lv_at hl 0 rfl) ?_
  refine lv_aload_n hx hb dX5_listGroups_8 rfl (lv_at hl 1 rfl) ?_
  refine va_get (D := D) (ci := 6) (v := .ref xl) (C := "KindredBooks$Kin") (T := T_zk6) (N := 13) hx hb hw in_zk6 hown hK hP 0 rfl rfl 1 (by decide) (hw _ mw_305) (fun _ h9 => h9) rfl dX5_listGroups_9 ?_
  refine va_getN (D := D) (ci := 2) (v := .int 0) (C := "KindredBooks$Ledger") (T := T_zk2) (N := 4) hx hb hw in_zk2 hown hK hP 1 rfl rfl 3 (by decide) (hn _ mn_171) (fun _ h9 => h9) rfl dX5_listGroups_12 ?_
  refine lv_icmp_ge (tgt := 54) hx hb dX5_listGroups_15 (by decide) (fun _ => ?_) (fun zc => absurd (by decide) zc)
  have hP9 := hP.sub (ws' := [(kn, .inr (6, [.ref bk, .ref xl, .ref k1, .ref k2, .ref k3, .int 0, .ref k4, .ref k5, .ref k6, .ref k7, .ref k8, .ref k9, .int fv])), (xl, .inr (2, [.ref bl, .ref no, .ref ro, .int 0]))]) [0, 1] rfl
  have hD9 := hD.sub (ws' := [(kn, .inr (6, [.ref bk, .ref xl, .ref k1, .ref k2, .ref k3, .int 0, .ref k4, .ref k5, .ref k6, .ref k7, .ref k8, .ref k9, .int fv])), (xl, .inr (2, [.ref bl, .ref no, .ref ro, .int 0]))]) [0, 1] (by decide) rfl
  exact W.vret hx hb hr (fun t ht hW => ⟨⟨(), rfl, trivial, by rw [ht]; exact hP9, hD9⟩, hS.F ht⟩) hS.2.2 dX5_listGroups_54
set_option maxHeartbeats 4000000 in
set_option maxRecDepth 100000 in
/-- the loop of Arrays.fill -/
theorem lp_fill {p : Program} {l : Launch} {e : Env} {R : Room} {s : State} {m : MethodId} {args : Array Value} {below : List Frame} {meth : Method} {c : Code} {cells slots : Nat} {Q : State → Prop} {A : Nat → Prop} {D : va_G} {dA : Nat → ClassId} {dZ : Nat → Nat} (a : Nat) (v : Int32) (N : Nat) (hx : p.tables.exec = Jvm.exec) (hb : c.code = cJ7_fill_53178) (hml : c.maxLocals = 4) (hown : s.vm.findClass "java/util/Arrays" = some m.cls) (hw : ∀ w ∈ W0, w.before args s = true) (hn : ∀ w ∈ N0, w.before args s = true) (hK : va_K D zcl (tz dA) s) (hT : zT s) (hE : zE dZ A s s.heap) (hA : ∀ q : Nat, s.heap.size ≤ q → A q) (hRf : 0 ≤ R.frames) (hRl : 0 ≤ R.locals) (hRc : cells ≤ R.cells) (hRs : slots ≤ R.slots) (hN : N < 2 ^ 30)
    (kk : ∀ (g1 : Nat → Int32), ∀ (H : Heap) (locs : List Loc), va_P D zcl [(a, .inl (dA 0, N, .inl g1))] H → va_D A [(a, .inl (dA 0, N, .inl g1))] → va_S A s.heap H locs → ∀ ls : Array Slot, lv_has ls 4 [(0, .ref a)] → W p l e R s m args below meth c H locs cells slots Q (F0 m 20 ls [])) :
    ∀ (n i : Nat) (g1 : Nat → Int32), 0 ≤ i → i ≤ N → N + 1 ≤ i + n → ∀ (H : Heap) (locs : List Loc), va_P D zcl [(a, .inl (dA 0, N, .inl g1))] H → va_D A [(a, .inl (dA 0, N, .inl g1))] → va_S A s.heap H locs → ∀ ls : Array Slot, lv_has ls 4 [(0, .ref a), (1, .int v), (2, .int (nI i)), (3, .int (nI N))] → W p l e R s m args below meth c H locs cells slots Q (F0 m 5 ls []) := by
  intro n
  induction n with
  | zero =>
    intro i g1 h0 h1 h2
    exact absurd h2 (by omega)
  | succ n ih =>
    intro i g1 h0 h1 h2  H locs hP hD hS ls hl
    refine lv_iload_n hx hb dJ7_fill_53178_5 rfl (lv_at hl 2 rfl) ?_
    refine lv_iload_n hx hb dJ7_fill_53178_6 rfl (lv_at hl 3 rfl) ?_
    refine lv_icmp_ge (tgt := 20) hx hb dJ7_fill_53178_7 (by decide) (fun c1 => ?_) (fun c1 => ?_)
    · exact kk g1  H locs (hP.sub [0] rfl) (hD.sub [0] (by decide) rfl) hS ls (lv_sub hl [0] rfl)
    · refine lv_aload_n hx hb dJ7_fill_53178_10 rfl (lv_at hl 0 rfl) ?_
      refine lv_iload_n hx hb dJ7_fill_53178_11 rfl (lv_at hl 2 rfl) ?_
      refine lv_iload_n hx hb dJ7_fill_53178_12 rfl (lv_at hl 1 rfl) ?_
      refine va_iast hx hb hK hP hD hS 0 0 rfl rfl (vp_in_nI (z_clt (N := N) rfl (by omega) c1) (by omega)) dJ7_fill_53178_13 (fun H locs hP hD hS => ?_)
      obtain ⟨g3, eg3⟩ : ∃ g, g = (upd g1 (nI i).toNatClampNeg v) := ⟨_, rfl⟩
      rw [← eg3] at hP hD
      have hP : va_P D zcl [(a, .inl (dA 0, N, .inl g3))] H := hP
      have hD : va_D A [(a, .inl (dA 0, N, .inl g3))] := hD
      refine lv_iinc (v := (nI (i + 1))) (lv' := [(2, .int (nI (i + 1))), (0, .ref a), (1, .int v), (3, .int (nI N))]) hx hb dJ7_fill_53178_14 hl (k := 2) rfl (z_inc i) (by decide) rfl (fun ls hl => ?_)
      refine lv_goto (tgt := 5) hx hb dJ7_fill_53178_17 (by decide) ?_
      exact ih (i + 1) g3 (by omega) (z_clt (N := N) rfl (by omega) c1) (by omega)  H locs (hP.sub [0] rfl) (hD.sub [0] (by decide) rfl) hS ls (lv_sub hl [1, 2, 0, 3] rfl)
set_option maxHeartbeats 4000000 in
set_option maxRecDepth 100000 in
/-- Arrays.fill -/
theorem c_fill (l : Launch) (D : va_G) (dA : Nat → ClassId) (dZ : Nat → Nat) (sz : Nat) (a : Nat) (v : Int32) (N : Nat) (f1 : Nat → Int32) (hN : N < 2 ^ 30) : Met l yJ7_fill_53178 (wz yJ7_fill_53178 cJ7_fill_53178 4 none) ({ frames := 0, cells := 0, slots := 0, locals := 0 } : Room) (va_Pc [.ref a, .int v] (zP D dA dZ [(a, .inl (dA 0, N, .inl f1))] sz)) (va_Qv (fun (u : (Nat → Int32)) => True) (fun u => zB D (va_A [(a, .inl (dA 0, N, .inl f1))] sz) [(a, .inl (dA 0, N, .inl u))]) (va_A [(a, .inl (dA 0, N, .inl f1))] sz)) 0 0 (va_A [(a, .inl (dA 0, N, .inl f1))] sz) := by
  refine Met.ofW (cc := cJ7_fill_53178) (maxL := 4) (ret := none) (by decide) rfl ?_
  intro p e s m args below meth c s₁ B hml hv
  obtain ⟨rfl, hsz, hP, hK, hD0, hT, hE⟩ := hv
  have hx := B.exec
  have hb := B.bytes
  have hr := B.returns
  have hw := wz_hw (atoms_spec (ws := wz yJ7_fill_53178 cJ7_fill_53178 4 none) B.pre)
  have hown : s.vm.findClass "java/util/Arrays" = some m.cls := findClass_of_methodNamed B.named
  have hlocks := B.notSynchronized
  have hn := hT.1.use (args := ([.ref a, .int v] : List Value).toArray)
  subst hsz
  have hD := hD0.self (sz := s.heap.size)
  generalize hAe : va_A [(a, .inl (dA 0, N, .inl f1))] s.heap.size = A at hD hE ⊢
  have hA : ∀ q : Nat, s.heap.size ≤ q → A q := fun q h => by rw [← hAe]; exact Or.inr h
  have hS : va_S A s.heap s.heap [] := va_S.rf
  replace hP : va_P D zcl [(a, .inl (dA 0, N, .inl f1))] s.heap := hP
  have hl := lv_entry ([.ref a, .int v]) (n := 4) (Nat.le_of_ble_eq_true rfl)
  rw [lg_entry_eq]
  generalize (lg_sl ([.ref a, .int v]) ++ List.replicate (4 - (lg_sl ([.ref a, .int v])).length) Slot.unset).toArray = ls at hl ⊢
  replace hl : lv_has ls 4 [(0, .ref a), (1, .int v)] := hl
  refine lv_iconst (v := 0) hx hb dJ7_fill_53178_0 (by decide) ?_
  refine lv_istore_n (lv' := [(2, .int 0), (0, .ref a), (1, .int v)]) hx hb dJ7_fill_53178_1 rfl hl (by decide) rfl (fun ls hl => ?_)
  refine lv_aload_n hx hb dJ7_fill_53178_2 rfl (lv_at hl 1 rfl) ?_
  refine va_alen hx hb hK hP 0 0 rfl rfl (v := (nI N)) rfl dJ7_fill_53178_3 ?_
  refine lv_istore_n (lv' := [(3, .int (nI N)), (2, .int 0), (0, .ref a), (1, .int v)]) hx hb dJ7_fill_53178_4 rfl hl (by decide) rfl (fun ls hl => ?_)
  refine lp_fill a v N hx hb hml hown hw hn hK hT hE hA (Nat.le_of_ble_eq_true rfl) (Nat.le_of_ble_eq_true rfl) (Nat.le_of_ble_eq_true rfl) (Nat.le_of_ble_eq_true rfl) hN (fun g1  H locs hP hD hS ls hl => ?_) (N + 1) 0 f1 (by omega) (by omega) (by omega)  _ _ (hP.sub [0] rfl) (hD.sub [0] (by decide) rfl) hS ls (lv_sub hl [2, 3, 1, 0] rfl)
  have hP9 := hP.sub (ws' := [(a, .inl (dA 0, N, .inl g1))]) [0] rfl
  have hD9 := hD.sub (ws' := [(a, .inl (dA 0, N, .inl g1))]) [0] (by decide) rfl
  exact W.vret hx hb hr (fun t ht hW => ⟨⟨g1, rfl, trivial, by rw [ht]; exact hP9, hD9⟩, hS.F ht⟩) hS.2.2 dJ7_fill_53178_20
set_option maxHeartbeats 4000000 in
set_option maxRecDepth 100000 in
/-- the adding loop of placeLines -/
theorem lp_placeLines {p : Program} {l : Launch} {e : Env} {R : Room} {s : State} {m : MethodId} {args : Array Value} {below : List Frame} {meth : Method} {c : Code} {cells slots : Nat} {Q : State → Prop} {A : Nat → Prop} {D : va_G} {dA : Nat → ClassId} {dZ : Nat → Nat} (kn : Nat) (bk : Nat) (xl : Nat) (k1 : Nat) (k2 : Nat) (k3 : Nat) (k4 : Nat) (k5 : Nat) (k6 : Nat) (k7 : Nat) (k8 : Nat) (k9 : Nat) (b1 : Nat) (b2 : Nat) (b3 : Nat) (b4 : Nat) (bl : Nat) (no : Nat) (ro : Nat) (hd : Int32) (vr : Int32) (fv : Int32) (sz0 : Int32) (hx : p.tables.exec = Jvm.exec) (hb : c.code = cX5_placeLines) (hml : c.maxLocals = 4) (hown : s.vm.findClass "KindredBooks$Kin" = some m.cls) (hw : ∀ w ∈ W0, w.before args s = true) (hn : ∀ w ∈ N0, w.before args s = true) (hK : va_K D zcl (tz dA) s) (hT : zT s) (hE : zE dZ A s s.heap) (hA : ∀ q : Nat, s.heap.size ≤ q → A q) (hRf : 0 ≤ R.frames) (hRl : 0 ≤ R.locals) (hRc : cells ≤ R.cells) (hRs : slots ≤ R.slots)
    (kk : ∀ (g1 : Nat → Int32), ∀ (H : Heap) (locs : List Loc), va_P D zcl [(kn, .inr (6, [.ref bk, .ref xl, .ref k1, .ref k2, .ref k3, .int sz0, .ref k4, .ref k5, .ref k6, .ref k7, .ref k8, .ref k9, .int fv])), (bk, .inr (5, [.int hd, .ref xl, .ref b1, .ref b2, .ref b3, .ref b4, .int 0, .int 0, .int vr])), (xl, .inr (2, [.ref bl, .ref no, .ref ro, .int 0])), (k5, .inl (dA 0, 251, .inl g1))] H → va_D A [(kn, .inr (6, [.ref bk, .ref xl, .ref k1, .ref k2, .ref k3, .int sz0, .ref k4, .ref k5, .ref k6, .ref k7, .ref k8, .ref k9, .int fv])), (bk, .inr (5, [.int hd, .ref xl, .ref b1, .ref b2, .ref b3, .ref b4, .int 0, .int 0, .int vr])), (xl, .inr (2, [.ref bl, .ref no, .ref ro, .int 0])), (k5, .inl (dA 0, 251, .inl g1))] → va_S A s.heap H locs → ∀ ls : Array Slot, lv_has ls 4 [(0, .ref kn)] → W p l e R s m args below meth c H locs cells slots Q (F0 m 95 ls [])) :
    ∀ (n i : Nat) (g1 : Nat → Int32), 1 ≤ i → i ≤ 251 → 251 + 1 ≤ i + n → ∀ (H : Heap) (locs : List Loc), va_P D zcl [(kn, .inr (6, [.ref bk, .ref xl, .ref k1, .ref k2, .ref k3, .int sz0, .ref k4, .ref k5, .ref k6, .ref k7, .ref k8, .ref k9, .int fv])), (bk, .inr (5, [.int hd, .ref xl, .ref b1, .ref b2, .ref b3, .ref b4, .int 0, .int 0, .int vr])), (xl, .inr (2, [.ref bl, .ref no, .ref ro, .int 0])), (k5, .inl (dA 0, 251, .inl g1))] H → va_D A [(kn, .inr (6, [.ref bk, .ref xl, .ref k1, .ref k2, .ref k3, .int sz0, .ref k4, .ref k5, .ref k6, .ref k7, .ref k8, .ref k9, .int fv])), (bk, .inr (5, [.int hd, .ref xl, .ref b1, .ref b2, .ref b3, .ref b4, .int 0, .int 0, .int vr])), (xl, .inr (2, [.ref bl, .ref no, .ref ro, .int 0])), (k5, .inl (dA 0, 251, .inl g1))] → va_S A s.heap H locs → ∀ ls : Array Slot, lv_has ls 4 [(0, .ref kn), (1, .int (nI i))] → W p l e R s m args below meth c H locs cells slots Q (F0 m 63 ls []) := by
  intro n
  induction n with
  | zero =>
    intro i g1 h0 h1 h2
    exact absurd h2 (by omega)
  | succ n ih =>
    intro i g1 h0 h1 h2  H locs hP hD hS ls hl
    refine lv_iload_n hx hb dX5_placeLines_63 rfl (lv_at hl 1 rfl) ?_
    refine lv_aload_n hx hb dX5_placeLines_64 rfl (lv_at hl 0 rfl) ?_
    refine va_get (D := D) (ci := 6) (v := .ref k5) (C := "KindredBooks$Kin") (T := T_zk6) (N := 13) hx hb hw in_zk6 hown hK hP 0 rfl rfl 7 (by decide) (hw _ mw_313) (fun _ h9 => h9) rfl dX5_placeLines_65 ?_
    refine va_alen hx hb hK hP 3 0 rfl rfl (v := 251) (show Int32.ofNat 251 = 251 from by decide) dX5_placeLines_68 ?_
    refine lv_icmp_ge (tgt := 95) hx hb dX5_placeLines_69 (by decide) (fun c1 => ?_) (fun c1 => ?_)
    · exact kk g1  H locs (hP.sub [0, 1, 2, 3] rfl) (hD.sub [0, 1, 2, 3] (by decide) rfl) hS ls (lv_sub hl [0] rfl)
    · have hlt := z_clt (N := 251) rfl (by omega) c1
      refine lv_aload_n hx hb dX5_placeLines_72 rfl (lv_at hl 0 rfl) ?_
      refine va_get (D := D) (ci := 6) (v := .ref k5) (C := "KindredBooks$Kin") (T := T_zk6) (N := 13) hx hb hw in_zk6 hown hK hP 0 rfl rfl 7 (by decide) (hw _ mw_313) (fun _ h9 => h9) rfl dX5_placeLines_73 ?_
      refine lv_iload_n hx hb dX5_placeLines_76 rfl (lv_at hl 1 rfl) ?_
      refine lv_dup2_11 hx hb dX5_placeLines_77 rfl rfl ?_
      refine va_iald hx hb hK hP 3 0 rfl rfl (vp_in_nI hlt (by omega)) dX5_placeLines_78 ?_
      refine lv_topi (fun v_1 ev_1 => ?_)
      refine lv_aload_n hx hb dX5_placeLines_79 rfl (lv_at hl 0 rfl) ?_
      refine va_get (D := D) (ci := 6) (v := .ref k5) (C := "KindredBooks$Kin") (T := T_zk6) (N := 13) hx hb hw in_zk6 hown hK hP 0 rfl rfl 7 (by decide) (hw _ mw_313) (fun _ h9 => h9) rfl dX5_placeLines_80 ?_
      refine lv_iload_n hx hb dX5_placeLines_83 rfl (lv_at hl 1 rfl) ?_
      refine lv_iconst (v := 1) hx hb dX5_placeLines_84 (by decide) ?_
      refine lv_isub hx hb dX5_placeLines_85 ?_
      refine lv_topi (fun v_2 ev_2 => ?_)
      obtain rfl : v_2 = (nI (i - 1)) := ev_2.trans (pk_sub (b := 1) h0)
      refine va_iald hx hb hK hP 3 0 rfl rfl (vp_in_nI (show i - 1 < 251 by omega) (by omega)) dX5_placeLines_86 ?_
      refine lv_topi (fun v_3 ev_3 => ?_)
      refine lv_iadd hx hb dX5_placeLines_87 ?_
      refine lv_topi (fun v_4 ev_4 => ?_)
      refine va_iast hx hb hK hP hD hS 3 0 rfl rfl (vp_in_nI hlt (by omega)) dX5_placeLines_88 (fun H locs hP hD hS => ?_)
      obtain ⟨g3, eg3⟩ : ∃ g, g = (upd g1 (nI i).toNatClampNeg v_4) := ⟨_, rfl⟩
      rw [← eg3] at hP hD
      have hP : va_P D zcl [(kn, .inr (6, [.ref bk, .ref xl, .ref k1, .ref k2, .ref k3, .int sz0, .ref k4, .ref k5, .ref k6, .ref k7, .ref k8, .ref k9, .int fv])), (bk, .inr (5, [.int hd, .ref xl, .ref b1, .ref b2, .ref b3, .ref b4, .int 0, .int 0, .int vr])), (xl, .inr (2, [.ref bl, .ref no, .ref ro, .int 0])), (k5, .inl (dA 0, 251, .inl g3))] H := hP
      have hD : va_D A [(kn, .inr (6, [.ref bk, .ref xl, .ref k1, .ref k2, .ref k3, .int sz0, .ref k4, .ref k5, .ref k6, .ref k7, .ref k8, .ref k9, .int fv])), (bk, .inr (5, [.int hd, .ref xl, .ref b1, .ref b2, .ref b3, .ref b4, .int 0, .int 0, .int vr])), (xl, .inr (2, [.ref bl, .ref no, .ref ro, .int 0])), (k5, .inl (dA 0, 251, .inl g3))] := hD
      refine lv_iinc (v := (nI (i + 1))) (lv' := [(1, .int (nI (i + 1))), (0, .ref kn)]) hx hb dX5_placeLines_89 hl (k := 1) rfl (z_inc i) (by decide) rfl (fun ls hl => ?_)
      refine lv_goto (tgt := 63) hx hb dX5_placeLines_92 (by decide) ?_
      exact ih (i + 1) g3 (by omega) hlt (by omega)  H locs (hP.sub [0, 1, 2, 3] rfl) (hD.sub [0, 1, 2, 3] (by decide) rfl) hS ls (lv_sub hl [1, 0] rfl)
set_option maxHeartbeats 4000000 in
set_option maxRecDepth 100000 in
/-- placeLines of an empty ledger -/
theorem c_placeLines0 (l : Launch) (D : va_G) (dA : Nat → ClassId) (dZ : Nat → Nat) (sz : Nat) (kn : Nat) (bk : Nat) (xl : Nat) (k1 : Nat) (k2 : Nat) (k3 : Nat) (k4 : Nat) (k5 : Nat) (k6 : Nat) (k7 : Nat) (k8 : Nat) (k9 : Nat) (b1 : Nat) (b2 : Nat) (b3 : Nat) (b4 : Nat) (bl : Nat) (no : Nat) (ro : Nat) (hd : Int32) (vr : Int32) (fv : Int32) (sz0 : Int32) (f5 : Nat → Int32) : Met l yX5_placeLines (wz yX5_placeLines cX5_placeLines 4 none) ({ frames := 1, cells := 0, slots := 0, locals := 40 } : Room) (va_Pc [.ref kn] (zP D dA dZ [(kn, .inr (6, [.ref bk, .ref xl, .ref k1, .ref k2, .ref k3, .int sz0, .ref k4, .ref k5, .ref k6, .ref k7, .ref k8, .ref k9, .int fv])), (bk, .inr (5, [.int hd, .ref xl, .ref b1, .ref b2, .ref b3, .ref b4, .int 0, .int 0, .int vr])), (xl, .inr (2, [.ref bl, .ref no, .ref ro, .int 0])), (k5, .inl (dA 0, 251, .inl f5))] sz)) (va_Qv (fun (u : (Nat → Int32)) => True) (fun u => zB D (va_A [(kn, .inr (6, [.ref bk, .ref xl, .ref k1, .ref k2, .ref k3, .int sz0, .ref k4, .ref k5, .ref k6, .ref k7, .ref k8, .ref k9, .int fv])), (bk, .inr (5, [.int hd, .ref xl, .ref b1, .ref b2, .ref b3, .ref b4, .int 0, .int 0, .int vr])), (xl, .inr (2, [.ref bl, .ref no, .ref ro, .int 0])), (k5, .inl (dA 0, 251, .inl f5))] sz) [(kn, .inr (6, [.ref bk, .ref xl, .ref k1, .ref k2, .ref k3, .int sz0, .ref k4, .ref k5, .ref k6, .ref k7, .ref k8, .ref k9, .int fv])), (bk, .inr (5, [.int hd, .ref xl, .ref b1, .ref b2, .ref b3, .ref b4, .int 0, .int 0, .int vr])), (xl, .inr (2, [.ref bl, .ref no, .ref ro, .int 0])), (k5, .inl (dA 0, 251, .inl u))]) (va_A [(kn, .inr (6, [.ref bk, .ref xl, .ref k1, .ref k2, .ref k3, .int sz0, .ref k4, .ref k5, .ref k6, .ref k7, .ref k8, .ref k9, .int fv])), (bk, .inr (5, [.int hd, .ref xl, .ref b1, .ref b2, .ref b3, .ref b4, .int 0, .int 0, .int vr])), (xl, .inr (2, [.ref bl, .ref no, .ref ro, .int 0])), (k5, .inl (dA 0, 251, .inl f5))] sz)) 0 0 (va_A [(kn, .inr (6, [.ref bk, .ref xl, .ref k1, .ref k2, .ref k3, .int sz0, .ref k4, .ref k5, .ref k6, .ref k7, .ref k8, .ref k9, .int fv])), (bk, .inr (5, [.int hd, .ref xl, .ref b1, .ref b2, .ref b3, .ref b4, .int 0, .int 0, .int vr])), (xl, .inr (2, [.ref bl, .ref no, .ref ro, .int 0])), (k5, .inl (dA 0, 251, .inl f5))] sz) := by
  refine Met.ofW (cc := cX5_placeLines) (maxL := 4) (ret := none) (by decide) rfl ?_
  intro p e s m args below meth c s₁ B hml hv
  obtain ⟨rfl, hsz, hP, hK, hD0, hT, hE⟩ := hv
  have hx := B.exec
  have hb := B.bytes
  have hr := B.returns
  have hw := wz_hw (atoms_spec (ws := wz yX5_placeLines cX5_placeLines 4 none) B.pre)
  have hown : s.vm.findClass "KindredBooks$Kin" = some m.cls := findClass_of_methodNamed B.named
  have hlocks := B.notSynchronized
  have hn := hT.1.use (args := ([.ref kn] : List Value).toArray)
  subst hsz
  have hD := hD0.self (sz := s.heap.size)
  generalize hAe : va_A [(kn, .inr (6, [.ref bk, .ref xl, .ref k1, .ref k2, .ref k3, .int sz0, .ref k4, .ref k5, .ref k6, .ref k7, .ref k8, .ref k9, .int fv])), (bk, .inr (5, [.int hd, .ref xl, .ref b1, .ref b2, .ref b3, .ref b4, .int 0, .int 0, .int vr])), (xl, .inr (2, [.ref bl, .ref no, .ref ro, .int 0])), (k5, .inl (dA 0, 251, .inl f5))] s.heap.size = A at hD hE ⊢
  have hA : ∀ q : Nat, s.heap.size ≤ q → A q := fun q h => by rw [← hAe]; exact Or.inr h
  have hS : va_S A s.heap s.heap [] := va_S.rf
  replace hP : va_P D zcl [(kn, .inr (6, [.ref bk, .ref xl, .ref k1, .ref k2, .ref k3, .int sz0, .ref k4, .ref k5, .ref k6, .ref k7, .ref k8, .ref k9, .int fv])), (bk, .inr (5, [.int hd, .ref xl, .ref b1, .ref b2, .ref b3, .ref b4, .int 0, .int 0, .int vr])), (xl, .inr (2, [.ref bl, .ref no, .ref ro, .int 0])), (k5, .inl (dA 0, 251, .inl f5))] s.heap := hP
  have hl := lv_entry ([.ref kn]) (n := 4) (Nat.le_of_ble_eq_true rfl)
  rw [lg_entry_eq]
  generalize (lg_sl ([.ref kn]) ++ List.replicate (4 - (lg_sl ([.ref kn])).length) Slot.unset).toArray = ls at hl ⊢
  replace hl : lv_has ls 4 [(0, .ref kn)] := hl
  refine lv_aload_n hx hb dX5_placeLines_0 rfl (lv_at hl 0 rfl) ?_
  refine va_get (D := D) (ci := 6) (v := .ref k5) (C := "KindredBooks$Kin") (T := T_zk6) (N := 13) hx hb hw in_zk6 hown hK hP 0 rfl rfl 7 (by decide) (hw _ mw_313) (fun _ h9 => h9) rfl dX5_placeLines_1 ?_
  refine lv_iconst (v := 0) hx hb dX5_placeLines_4 (by decide) ?_
  have hPc := hP.sub (ws' := [(k5, .inl (dA 0, 251, .inl f5))]) [3] rfl
  have hDc := hD.sub (ws' := [(k5, .inl (dA 0, 251, .inl f5))]) [3] (by decide) rfl
  have hFc := va_free (wc := [(k5, .inl (dA 0, 251, .inl f5))]) hD hS hA [3] rfl
  refine va_callv (va_runS (As := [.ref k5, .int 0]) (rest := []) ⟨hx, hb, hml, hown, hw⟩ (c_fill l D dA dZ _ k5 0 251 f5 (by decide)) (z_cwS 2 hw mw_903 mw_904 mw_25 mw_905 rfl rfl (by decide +kernel) ⟨Nat.le_of_ble_eq_true rfl, Nat.le_of_ble_eq_true rfl⟩) (zPreS hPc hK hDc hT hE hS hFc) rfl rfl hl.1 rfl (lv_room (Nat.le_of_ble_eq_true rfl)) dX5_placeLines_5 ⟨Nat.le_of_ble_eq_true rfl, Nat.le_of_ble_eq_true rfl⟩) hS (fun q _ h => hFc q h) hFc (fun u t H1 locs ht hvm hpo hB hz1 hk1 hS => ?_)
  obtain ⟨g0, rfl⟩ : ∃ z, z = u := ⟨_, rfl⟩
  try dsimp only at hpo hB
  obtain ⟨hP1, hD1⟩ := hB
  rw [ht] at hP1
  obtain ⟨hP, hD⟩ := va_join (wr := [(kn, .inr (6, [.ref bk, .ref xl, .ref k1, .ref k2, .ref k3, .int sz0, .ref k4, .ref k5, .ref k6, .ref k7, .ref k8, .ref k9, .int fv])), (bk, .inr (5, [.int hd, .ref xl, .ref b1, .ref b2, .ref b3, .ref b4, .int 0, .int 0, .int vr])), (xl, .inr (2, [.ref bl, .ref no, .ref ro, .int 0]))]) (w1 := [(k5, .inl (dA 0, 251, .inl g0))]) hP hD [3] [0, 1, 2] rfl rfl (by decide) (by decide) hk1 hFc hP1 hD1
  generalize H1 = H at hP hS ⊢
  have hP : va_P D zcl [(kn, .inr (6, [.ref bk, .ref xl, .ref k1, .ref k2, .ref k3, .int sz0, .ref k4, .ref k5, .ref k6, .ref k7, .ref k8, .ref k9, .int fv])), (bk, .inr (5, [.int hd, .ref xl, .ref b1, .ref b2, .ref b3, .ref b4, .int 0, .int 0, .int vr])), (xl, .inr (2, [.ref bl, .ref no, .ref ro, .int 0])), (k5, .inl (dA 0, 251, .inl g0))] H := hP
  have hD : va_D A [(kn, .inr (6, [.ref bk, .ref xl, .ref k1, .ref k2, .ref k3, .int sz0, .ref k4, .ref k5, .ref k6, .ref k7, .ref k8, .ref k9, .int fv])), (bk, .inr (5, [.int hd, .ref xl, .ref b1, .ref b2, .ref b3, .ref b4, .int 0, .int 0, .int vr])), (xl, .inr (2, [.ref bl, .ref no, .ref ro, .int 0])), (k5, .inl (dA 0, 251, .inl g0))] := hD
  refine lv_iconst (v := 0) hx hb dX5_placeLines_8 (by decide) ?_
  refine lv_istore_n (lv' := [(1, .int 0), (0, .ref kn)]) hx hb dX5_placeLines_9 rfl hl (by decide) rfl (fun ls hl => ?_)
  refine lv_iload_n hx hb dX5_placeLines_10 rfl (lv_at hl 0 rfl) ?_
  refine lv_aload_n hx hb dX5_placeLines_11 rfl (lv_at hl 1 rfl) ?_
  refine va_get (D := D) (ci := 6) (v := .ref xl) (C := "KindredBooks$Kin") (T := T_zk6) (N := 13) hx hb hw in_zk6 hown hK hP 0 rfl rfl 1 (by decide) (hw _ mw_305) (fun _ h9 => h9) rfl dX5_placeLines_12 ?_
  refine va_getN (D := D) (ci := 2) (v := .int 0) (C := "KindredBooks$Ledger") (T := T_zk2) (N := 4) hx hb hw in_zk2 hown hK hP 2 rfl rfl 3 (by decide) (hn _ mn_171) (fun _ h9 => h9) rfl dX5_placeLines_15 ?_
  refine lv_icmp_ge (tgt := 61) hx hb dX5_placeLines_18 (by decide) (fun _ => ?_) (fun zc => absurd (by decide) zc)
  refine lv_iconst (v := 1) hx hb dX5_placeLines_61 (by decide) ?_
  refine lv_istore_n (lv' := [(1, .int 1), (0, .ref kn)]) hx hb dX5_placeLines_62 rfl hl (by decide) rfl (fun ls hl => ?_)
  refine lp_placeLines kn bk xl k1 k2 k3 k4 k5 k6 k7 k8 k9 b1 b2 b3 b4 bl no ro hd vr fv sz0 hx hb hml hown hw hn hK hT hE hA (Nat.le_of_ble_eq_true rfl) (Nat.le_of_ble_eq_true rfl) (Nat.le_of_ble_eq_true rfl) (Nat.le_of_ble_eq_true rfl) (fun g1  H locs hP hD hS ls hl => ?_) (251 + 1) 1 g0 (by omega) (by omega) (by omega)  _ _ (hP.sub [0, 1, 2, 3] rfl) (hD.sub [0, 1, 2, 3] (by decide) rfl) hS ls (lv_sub hl [1, 0] rfl)
  refine lv_aload_n hx hb dX5_placeLines_95 rfl (lv_at hl 0 rfl) ?_
  refine va_get (D := D) (ci := 6) (v := .ref bk) (C := "KindredBooks$Kin") (T := T_zk6) (N := 13) hx hb hw in_zk6 hown hK hP 0 rfl rfl 0 (by decide) (hw _ mw_304) (fun _ h9 => h9) rfl dX5_placeLines_96 ?_
  refine va_getN (D := D) (ci := 5) (v := .int 0) (C := "KindredBooks$Book") (T := T_zk5) (N := 9) hx hb hw in_zk5 hown hK hP 1 rfl rfl 6 (by decide) (hn _ mn_274) (fun _ h9 => h9) rfl dX5_placeLines_99 ?_
  refine lv_iconst (v := 1) hx hb dX5_placeLines_102 (by decide) ?_
  refine lv_isub hx hb dX5_placeLines_103 ?_
  refine lv_topi (fun v_2 ev_2 => ?_)
  obtain rfl : v_2 = (-1) := ev_2.trans (by decide)
  refine lv_istore_n (lv' := [(1, .int (-1)), (0, .ref kn)]) hx hb dX5_placeLines_104 rfl hl (by decide) rfl (fun ls hl => ?_)
  refine lv_iload_n hx hb dX5_placeLines_105 rfl (lv_at hl 0 rfl) ?_
  refine lv_if_lt (tgt := 165) hx hb dX5_placeLines_106 (by decide) (fun _ => ?_) (fun zc => absurd (by decide) zc)
  have hP9 := hP.sub (ws' := [(kn, .inr (6, [.ref bk, .ref xl, .ref k1, .ref k2, .ref k3, .int sz0, .ref k4, .ref k5, .ref k6, .ref k7, .ref k8, .ref k9, .int fv])), (bk, .inr (5, [.int hd, .ref xl, .ref b1, .ref b2, .ref b3, .ref b4, .int 0, .int 0, .int vr])), (xl, .inr (2, [.ref bl, .ref no, .ref ro, .int 0])), (k5, .inl (dA 0, 251, .inl g1))]) [0, 1, 2, 3] rfl
  have hD9 := hD.sub (ws' := [(kn, .inr (6, [.ref bk, .ref xl, .ref k1, .ref k2, .ref k3, .int sz0, .ref k4, .ref k5, .ref k6, .ref k7, .ref k8, .ref k9, .int fv])), (bk, .inr (5, [.int hd, .ref xl, .ref b1, .ref b2, .ref b3, .ref b4, .int 0, .int 0, .int vr])), (xl, .inr (2, [.ref bl, .ref no, .ref ro, .int 0])), (k5, .inl (dA 0, 251, .inl g1))]) [0, 1, 2, 3] (by decide) rfl
  exact W.vret hx hb hr (fun t ht hW => ⟨⟨g1, rfl, trivial, by rw [ht]; exact hP9, hD9⟩, hS.F ht⟩) hS.2.2 dX5_placeLines_165
