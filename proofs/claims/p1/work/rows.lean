section
/-! a name that the printed rows of new T[n][m] use and don't hold: the word 'arrayOver' of an array type -/
def va_AOA (ty : FieldType) (U : State) : Prop := (Cond.arrayOver (.array ty)).before #[] U = true
theorem va_AOA.of {ty : FieldType} {A : Array Value} {U : State} (h : (Cond.arrayOver (.array ty)).before A U = true) : va_AOA ty U := h
theorem va_AOA.use {ty : FieldType} {A : Array Value} {U : State} (h : va_AOA ty U) : (Cond.arrayOver (.array ty)).before A U = true := h
/-! ===== BEGIN new T[n][m]: the outer array a place, the inner ones among the pooled ===== -/
/-- f, but v at every address of l -/
def vr_up {α : Type} (f : Nat → α) (l : List Nat) (v : α) : Nat → α := fun a => if a ∈ l then v else f a
theorem vr_up_in {α : Type} {f : Nat → α} {l : List Nat} {v : α} {a : Nat} (h : a ∈ l) : vr_up f l v a = v := if_pos h
theorem vr_up_ne {α : Type} {f : Nat → α} {l : List Nat} {v : α} {a : Nat} (h : a ∉ l) : vr_up f l v a = f a := if_neg h
theorem vr_rows {L l : List Nat} {f : Nat → va_E} {e : va_E} (h : ∀ a, a ∈ l → a ∉ L) : va_pl L f ++ l.map (fun a => (a, e)) = va_pl (L ++ l) (vr_up f l e) := by
  unfold va_pl
  rw [List.map_append]
  congr 1
  · apply List.map_congr_left
    intro a ha
    rw [vr_up_ne (fun q => h a q ha)]
  · apply List.map_congr_left
    intro a ha
    rw [vr_up_in ha]
theorem vr_lay {X rows : va_W} {x : Nat × va_E} {pl : va_W} {D : va_G} {cl : List vw_C} {H : Heap} (hP : va_P D cl (((X ++ pl) ++ [x]) ++ rows) H) : va_P D cl ((X ++ [x]) ++ (pl ++ rows)) H := by
  rw [List.append_assoc (X ++ pl)] at hP
  have h := va_P.swap hP
  rw [← List.append_assoc X] at h
  have h2 := va_P.swap h
  rw [List.append_assoc (X ++ [x])] at h2
  exact h2
theorem vr_layD {X rows : va_W} {x : Nat × va_E} {pl : va_W} {A : Nat → Prop} (hD : va_D A (((X ++ pl) ++ [x]) ++ rows)) : va_D A ((X ++ [x]) ++ (pl ++ rows)) := by
  rw [List.append_assoc (X ++ pl)] at hD
  have h := va_D.swap hD
  rw [← List.append_assoc X] at h
  have h2 := va_D.swap h
  rw [List.append_assoc (X ++ [x])] at h2
  exact h2
theorem vr_outer (c : ClassId) (N h0 : Nat) : ∀ i : Nat, Jvm.Free.Multi.outerC c N h0 i = arrV c N (fun j => va_rf (if j < i then some (h0 + 1 + j) else none))
  | 0 => by
    show ({ cls := c, slots := Array.replicate N .null, vm := .none } : Cell) = _
    rw [arrV_new]
    refine congrArg (arrV c N) (funext fun j => ?_)
    simp [va_rf]
  | i + 1 => by
    show (Jvm.Free.Multi.outerC c N h0 i).setSlot i (.ref (h0 + 1 + i)) = _
    rw [vr_outer c N h0 i, arrV_store]
    refine congrArg (arrV c N) (funext fun j => ?_)
    by_cases e : j = i
    · subst e
      simp [updV, va_rf]
    · by_cases h : j < i
      · simp [updV, e, h, Nat.lt_succ_of_lt h]
      · simp [updV, e, h, show ¬ j < i + 1 by omega]
section VGM
variable {p : Program} {l : Launch} {e : Env} {R : Room} {s : State} {m : MethodId} {args : Array Value} {below : List Frame} {meth : Method} {c : Code} {H : Heap} {locs : List Loc} {cells slots : Nat} {Q : State → Prop}
variable {cc : ByteArray} {pc : Nat} {ls : Array Slot} {rest : List Value} {D : va_G} {cl : List vw_C} {A : Nat → Prop} {a : Nat} {tys : List (ClassId × FieldType)} {ws : va_W} {H0 : Heap}
theorem va_mna {X : va_W} {L : List Nat} {f : Nat → va_E} {cc : ByteArray} (hexec : p.tables.exec = Jvm.exec) (hb : c.code = cc) {own : String} {index : Nat} {ty : FieldType} {cy : ClassId} (hown : s.vm.findClass own = some m.cls) (hclink : (Cond.classLink own index ("[" ++ (FieldType.array ty).toString)).before args s = true) (hover : va_AOA ty s) (harr : (Cond.arrayClass ty).before args s = true) (hcy : s.vm.findClass (FieldType.array ty).toString = some cy)
    (hK : va_K D cl tys s) (hP : va_P D cl (X ++ va_pl L f) H) (hD : va_D A (X ++ va_pl L f)) (hS : va_S A H0 H locs) (hA : ∀ q, H0.size ≤ q → A q) {n k : Int32} {N' K' : Nat} {z : vp_A} (hn : ¬ n < 0) (hk : ¬ k < 0) (hN : n.toNatClampNeg = N') (hM : k.toNatClampNeg = K')
    (hb1 : N' * 4 ≤ 536870912) (hb2 : K' * componentBytes ty ≤ 536870912) (hb3 : K' ≤ 536870912) (hdf : fits ty (defaultValue ty) = true) (hdd : (defaultValue ty).isDefault = true) (hcells : cells + (1 + N') ≤ R.cells) (hslots : slots + (N' + N' * K') ≤ R.slots) (hz : ∀ c : ClassId, Jvm.Free.Multi.innerC c K' (defaultValue ty) = vp_cell c z) (hdg : decode cc pc = .ok (.multianewarray index 2, 4))
    (kk : ∀ (q : Nat) (r : Nat → Nat) (cA : ClassId) (H1 : Heap), (∀ i j : Nat, i < N' → j < N' → r i = r j → i = j) → (∀ i : Nat, i < N' → r i ∉ L) → va_K D cl (tys ++ [(cA, .array ty)]) s →
      va_P D cl ((X ++ [(q, .inl (cA, N', .inr (.inr (.inr (.inr (fun i => if i < N' then some (r i) else none))))))]) ++ va_pl (L ++ (List.range N').map r) (vr_up f ((List.range N').map r) (.inl (cy, z)))) H1 → va_D A ((X ++ [(q, .inl (cA, N', .inr (.inr (.inr (.inr (fun i => if i < N' then some (r i) else none))))))]) ++ va_pl (L ++ (List.range N').map r) (vr_up f ((List.range N').map r) (.inl (cy, z)))) → va_S A H0 H1 locs →
      W p l e R s m args below meth c H1 locs (cells + 1 + N') (slots + N' + N' * K') Q (F0 m (pc + 4) ls (.ref q :: rest))) : W p l e R s m args below meth c H locs cells slots Q (F0 m pc ls (.int k :: .int n :: rest)) := by
  subst hN
  subst hM
  intro T hT Xs
  obtain ⟨vm₁, cA, comp, -, fA, fC, hO, -, X', step⟩ := Xs.multianewarray2F hexec hown hclink (va_AOA.use hover) harr (g := F0 m pc ls (.int k :: .int n :: rest)) rfl (by rw [hb]; exact hdg) rfl hn hk hb1 hb2 hb3 hdf hdd hcells hslots
  have ec : some cy = some comp := hcy.symm.trans fC
  cases ec
  generalize hF : Jvm.Free.Multi.fill (T.setVm vm₁) cA cy n.toNatClampNeg k.toNatClampNeg (defaultValue ty) n.toNatClampNeg = F at X' step
  have hTh : (T.setVm vm₁).heap = H := hT
  obtain ⟨f1, f2, -, -⟩ := Jvm.Free.Multi.fill_facts (T.setVm vm₁) cA cy n.toNatClampNeg k.toNatClampNeg (defaultValue ty) n.toNatClampNeg
  rw [hF, hTh] at f1 f2
  have hold : ∀ x : Nat, x < H.size → F.heap[x]? = H[x]? := fun x hx => by
    have := Jvm.Free.Multi.fill_old (T.setVm vm₁) cA cy n.toNatClampNeg k.toNatClampNeg (defaultValue ty) (a := x) (by rw [hTh]; exact hx) n.toNatClampNeg
    rw [hF, hTh] at this
    exact this
  have hrow : ∀ j : Nat, j < n.toNatClampNeg → F.heap[H.size + 1 + j]? = some (vp_cell cy z) := fun j hj => by
    have := Jvm.Free.Multi.fill_inner (T.setVm vm₁) cA cy n.toNatClampNeg k.toNatClampNeg (defaultValue ty) n.toNatClampNeg j hj
    rw [hF, hTh, hz] at this
    exact this
  have hout : Jvm.Free.Multi.outerC cA n.toNatClampNeg H.size n.toNatClampNeg = vp_cell cA (n.toNatClampNeg, .inr (.inr (.inr (.inr (fun i => if i < n.toNatClampNeg then some (H.size + 1 + i) else none))))) := by
    rw [vp_cell_q]
    exact vr_outer cA n.toNatClampNeg H.size n.toNatClampNeg
  rw [hout] at f2
  have hlt : ∀ a, a ∈ L → a < H.size := fun a ha => by
    obtain ⟨k9, hk9⟩ := va_pl_get (X := X) (f := f) ha
    exact (hP k9 _ hk9).lt
  have hnl : ∀ i : Nat, i < n.toNatClampNeg → H.size + 1 + i ∉ L := fun i _ h => by
    have := hlt _ h
    omega
  have hnm : ∀ a, a ∈ (List.range n.toNatClampNeg).map (fun i => H.size + 1 + i) → a ∉ L := fun a ha h => by
    obtain ⟨i, -, rfl⟩ := List.mem_map.mp ha
    have := hlt _ h
    omega
  have hP0 : va_P D cl (X ++ va_pl L f) F.heap := hP.kept (fun k9 x hx => hold x.1 ((hP k9 x hx).lt))
  have hP1 : va_P D cl ((X ++ va_pl L f) ++ [(H.size, .inl (cA, n.toNatClampNeg, .inr (.inr (.inr (.inr (fun i => if i < n.toNatClampNeg then some (H.size + 1 + i) else none))))))]) F.heap := hP0.app (fun k9 x hx => by
    have h0 : k9 < 1 := (List.getElem?_eq_some_iff.mp hx).1
    rw [show k9 = 0 by omega] at hx
    cases hx
    exact f2)
  have hP2 : va_P D cl (((X ++ va_pl L f) ++ [(H.size, .inl (cA, n.toNatClampNeg, .inr (.inr (.inr (.inr (fun i => if i < n.toNatClampNeg then some (H.size + 1 + i) else none))))))]) ++ ((List.range n.toNatClampNeg).map (fun i => H.size + 1 + i)).map (fun a => (a, .inl (cy, z)))) F.heap := hP1.app (fun k9 x hx => by
    obtain ⟨a, ha, rfl⟩ := List.mem_map.mp (List.mem_of_getElem? hx)
    obtain ⟨i, hi, rfl⟩ := List.mem_map.mp ha
    exact hrow i (List.mem_range.mp hi))
  have hD2 : va_D A (((X ++ va_pl L f) ++ [(H.size, .inl (cA, n.toNatClampNeg, .inr (.inr (.inr (.inr (fun i => if i < n.toNatClampNeg then some (H.size + 1 + i) else none))))))]) ++ ((List.range n.toNatClampNeg).map (fun i => H.size + 1 + i)).map (fun a => (a, .inl (cy, z)))) := by
    have hD1 := hD.push (e := .inl (cA, n.toNatClampNeg, .inr (.inr (.inr (.inr (fun i => if i < n.toNatClampNeg then some (H.size + 1 + i) else none)))))) hP rfl (hA _ hS.1)
    generalize hW1 : (X ++ va_pl L f) ++ [(H.size, .inl (cA, n.toNatClampNeg, .inr (.inr (.inr (.inr (fun i => if i < n.toNatClampNeg then some (H.size + 1 + i) else none))))))] = W1 at hD1 hP1 ⊢
    have hle : ∀ (k9 : Nat) (x : Nat × va_E), W1[k9]? = some x → x.1 ≤ H.size := fun k9 x hx => by
      rw [← hW1] at hx
      by_cases hl : k9 < (X ++ va_pl L f).length
      · rw [List.getElem?_append_left hl] at hx
        exact Nat.le_of_lt ((hP k9 x hx).lt)
      · rw [List.getElem?_append_right (by omega)] at hx
        have h0 : k9 - (X ++ va_pl L f).length < 1 := (List.getElem?_eq_some_iff.mp hx).1
        rw [show k9 - (X ++ va_pl L f).length = 0 by omega] at hx
        cases hx
        exact Nat.le_refl _
    have hr : ∀ (k9 : Nat) (x : Nat × va_E), (((List.range n.toNatClampNeg).map (fun i => H.size + 1 + i)).map (fun a => ((a, .inl (cy, z)) : Nat × va_E)))[k9]? = some x → x.1 = H.size + 1 + k9 := fun k9 x hx => by
      rw [List.getElem?_map, List.getElem?_map] at hx
      by_cases h9 : k9 < n.toNatClampNeg
      · rw [List.getElem?_range h9] at hx
        cases hx
        rfl
      · have hn0 : (List.range n.toNatClampNeg)[k9]? = none := List.getElem?_eq_none (by rw [List.length_range]; omega)
        rw [hn0] at hx
        cases hx
    refine ⟨fun i j x y hi hj hxy => ?_, fun k9 x hx => ?_⟩
    · by_cases h1 : i < W1.length <;> by_cases h2 : j < W1.length
      · rw [List.getElem?_append_left h1] at hi
        rw [List.getElem?_append_left h2] at hj
        exact hD1.1 i j x y hi hj hxy
      · rw [List.getElem?_append_left h1] at hi
        rw [List.getElem?_append_right (by omega)] at hj
        have := hle _ _ hi
        have := hr _ _ hj
        omega
      · rw [List.getElem?_append_right (by omega)] at hi
        rw [List.getElem?_append_left h2] at hj
        have := hle _ _ hj
        have := hr _ _ hi
        omega
      · rw [List.getElem?_append_right (by omega)] at hi hj
        have := hr _ _ hi
        have := hr _ _ hj
        omega
    · by_cases h1 : k9 < W1.length
      · rw [List.getElem?_append_left h1] at hx
        exact hD1.2 k9 x hx
      · rw [List.getElem?_append_right (by omega)] at hx
        have := hr _ _ hx
        exact hA _ (by have := hS.1; omega)
  have hAr : ArrOfT s cA (.array ty) := fun N9 z9 => by
    obtain ⟨-, k9, hk9, cm9, hkk9⟩ := (hO 0 0 0).1
    exact ⟨(fun q hq => by cases hq), k9, hk9, cm9, hkk9⟩
  have hK2 : va_K D cl (tys ++ [(cA, .array ty)]) s := ⟨hK.1, fun k9 x hx => by
    by_cases hl : k9 < tys.length
    · rw [List.getElem?_append_left hl] at hx
      exact hK.2 k9 x hx
    · rw [List.getElem?_append_right (by omega)] at hx
      have h0 : k9 - tys.length < 1 := (List.getElem?_eq_some_iff.mp hx).1
      rw [show k9 - tys.length = 0 by omega] at hx
      cases hx
      exact ⟨hAr, fA⟩⟩
  obtain ⟨t, a1, b1⟩ := kk H.size (fun i => H.size + 1 + i) cA F.heap (fun i j _ _ h => by have h9 : H.size + 1 + i = H.size + 1 + j := h; omega) hnl hK2 (by rw [← vr_rows hnm]; exact vr_lay hP2) (by rw [← vr_rows hnm]; exact vr_layD hD2) ⟨by rw [f1]; have := hS.1; omega, fun x h1 h2 => (hold x (Nat.lt_of_lt_of_le h1 hS.1)).trans (hS.2.1 x h1 h2), hS.2.2⟩ F rfl X'
  refine ⟨t, step t ?_, b1⟩
  have e : T.heap.size = H.size := by rw [hT]
  rw [e]
  exact a1
end VGM
/-! ===== END ===== -/
/-! ===== BEGIN exceptions that leave a method, and their catching by the caller (launches without stack traces) ===== -/
section VXA
/-! The laws vx_back, vx_callV, vx_callS, vx_callSW, vx_throw0, vx_throwS follow proofs of the library, with one case more: JvmDerived/Free/Laws.lean (Back.of_free), Shelf42/LK1.lean (callV, callS), Shelf/KitTraced.lean (throwNew0V, throwNewS). -/
/-- where a method has thrown q: the class by its name, the cell, what was written, the world -/
def vx_T (XC : String → State → State → Prop) (st : State) (q : Addr) (t : State) (mc ms : Nat) (free : Addr → Prop) : Prop :=
  ∃ (E : String) (ce : Cell) (L : List Loc), XC E st t ∧ t.heap[q]? = some ce ∧ ce.vm = .none ∧ st.vm.findClass E = some ce.cls ∧ st.WarmedH t.vm ∧ st.sameButNew ({ t with vm := st.vm } : State) L mc ms ∧ ∀ z ∈ L, free z.base
def vx_Q (Qc : Array Value → State → Outcome → State → Prop) (XC : String → State → State → Prop) (mc ms : Nat) (free : Addr → Prop) : Array Value → State → Outcome → State → Prop := fun a st o t =>
  (Qc a st o t ∧ ∃ L, FrameEnd st o t L mc ms ∧ ∀ q ∈ L, free q.base) ∨ ∃ q, o = .threw q ∧ vx_T XC st q t mc ms free
/-- a callee that returns or throws -/
def vx_Met (l : Launch) (y : MethodName) (ws : List Cond) (rm : Room) (Pc : Array Value → State → Prop) (Qc : Array Value → State → Outcome → State → Prop) (XC : String → State → State → Prop) (mc ms : Nat) (free : Addr → Prop) : Prop :=
  MetFree l y (headSpec ws rm) Pc (fun _ _ _ _ _ => True) (vx_Q Qc XC mc ms free)
def vx_Post (XC : String → State → State → Prop) (mc ms : Nat) (free : Addr → Prop) : Pt → Array Value → Addr → Pt → Prop := fun A a q B =>
  ∃ (g : JFrame) (mk : MethodId) (t : State) (L : List Loc) (E : String) (ce : Cell), B.U.heap = t.heap ∧ B.U.vm = t.vm ∧ XC E (A.U.calling g mk a) t ∧ t.heap[q]? = some ce ∧ ce.vm = .none ∧ A.U.vm.findClass E = some ce.cls ∧ B.locs = A.locs ++ L ∧ (∀ z ∈ L, free z.base) ∧ B.cells = A.cells + mc ∧ B.slots = A.slots + ms
def vx_Back (l : Launch) (R : Room) (p : Program) (e : Env) (below : List Frame) (s : State) (sargs : Array Value) (y : MethodName) (len W9 : Nat)
    (Pre : Pt → Array Value → Prop) (Post : Pt → Array Value → Option Value → Pt → Prop) (PostX : Pt → Array Value → Addr → Pt → Prop) : Prop :=
  ∀ (m : MethodId) (meth : Method) (c : Code) (A : Pt) (g : JFrame) (ig : Instr) (mk : MethodId) (a : Array Value),
    Stand p l e R s m sargs below meth c A.U A.locs A.cells A.slots → g.method = m → g.locals.size = c.maxLocals → decode c.code g.pc = .ok (ig, len) →
    2 * g.monitorRoom + (g.stack.map fun v => v.category).sum ≤ W9 → A.U.methodNamed? y = some mk → Pre A a →
    (∃ (v : Option Value) (B : Pt), Stand p l e R s m sargs below meth c B.U B.locs B.cells B.slots ∧ Post A a v B ∧
      Steps p.tables e below (doInvoke e (A.U.setTop g) [] mk a).1 (B.U.setTop { g with pc := g.pc + len, stack := v.toList ++ g.stack })) ∨
    (∃ (q : Addr) (B : Pt), Stand p l e R s m sargs below meth c B.U B.locs B.cells B.slots ∧ PostX A a q B ∧
      Steps p.tables e below (doInvoke e (A.U.setTop g) [] mk a).1 ((B.U.setTop g).pushFrame (.throwing q)))
section Payer
variable {l : Launch} {R : Room} {p : Program} {e : Env} {below : List Frame} {s : State} {sargs : Array Value} {y : MethodName} {len W9 : Nat}
theorem vx_back {ws : List Cond} {rm : Room} {Pc : Array Value → State → Prop} {Qc : Array Value → State → Outcome → State → Prop} {XC : String → State → State → Prop} {mc ms : Nat} {free : Addr → Prop} {bytes : ByteArray} {maxL : Nat} {ret : Option FieldType}
    (hM : vx_Met l y ws rm Pc Qc XC mc ms free) (hblind : FrameBlind Pc) (hrc : rm.cells = mc) (hrs : rm.slots = ms)
    (hframes : rm.frames + 1 ≤ R.frames) (hlocals : W9 + (maxL + 11) + rm.locals ≤ R.locals)
    (hws : ∀ w ∈ ws, ∀ a' U, s.WarmedH U.vm → w.before a' U = true) (hcode : Cond.code y bytes maxL ret ∈ ws) (hinit : ∀ a' U, s.WarmedH U.vm → (Cond.initialized y.cls).before a' U = true) :
    vx_Back l R p e below s sargs y len W9 (PreOf R mc ms Pc) (PostOf Qc mc ms free) (vx_Post XC mc ms free) := by
  intro m meth c A g ig mk a X hg hsize hdg hW hn hp
  have h1 : (headSpec ws rm).pre.before a A.U = true := atoms_intro fun w hw => hws w hw _ _ X.warmed
  have h2 : (Cond.code y bytes maxL ret).before a A.U = true := hws _ hcode _ _ X.warmed
  have h3 : (Cond.initialized y.cls).before a A.U = true := hinit _ _ X.warmed
  have h4 : A.cells + (headSpec ws rm).room.cells ≤ R.cells := by rw [show (headSpec ws rm).room.cells = mc from hrc]; exact hp.1
  have h5 : A.slots + (headSpec ws rm).room.slots ≤ R.slots := by rw [show (headSpec ws rm).room.slots = ms from hrs]; exact hp.2.1
  have hPc : Pc a (A.U.calling g mk a) := hblind _ _ _ _ hp.2.2
  obtain ⟨U, Ls, c0, s0⟩ := A
  dsimp only [Pt.U, Pt.locs, Pt.cells, Pt.slots] at h1 h2 h3 h4 h5 X hn hPc ⊢
  obtain ⟨methY, cY, hmY, hcY, -, hlY, -, -, -, -⟩ := Cond.code_spec hn h2
  obtain ⟨kY, hkY, -⟩ := className_of_methodNamed hn
  have hinitY : kY.init = .initialized := Cond.initialized_spec (findClass_of_methodNamed hn) hkY h3
  have h : At U g.method c below := by rw [hg]; exact X.here
  have hlocals9 : W9 + (maxL + 11) + (headSpec ws rm).room.locals ≤ R.locals := hlocals
  have happ : (headSpec ws rm).appliesLoose y e.platform (U.calling g mk a) = true :=
    Spec.appliesLoose_calling (g := g) h hdg hn hkY hinitY
      (X.room_calling (g := g) (R' := (headSpec ws rm).room) hsize hmY hcY hframes (by rw [hlY]; omega) h4 h5) h1
  obtain ⟨mid, hmid⟩ := h.above
  have hfr : (U.setTop g).frames = (.java g :: mid) ++ below := by rw [State.frames_setTop' g h.top, hmid]; rfl
  obtain ⟨o, s₂, hsteps, -, hend, hq⟩ := Steps.callFree hM p X.admits X.cas X.clock (acts := []) hfr happ hPc trivial
  have hq' : vx_Q Qc XC mc ms free a (U.calling g mk a) o s₂ := hq
  rw [State.frames_setTop' g h.top] at hend
  obtain ⟨g₀, hg0⟩ := Option.isSome_iff_exists.mp h.top
  obtain ⟨r, hr⟩ := State.topJava?_eq_some.mp hg0
  have hr' : (({ U with heap := s₂.heap, slotsUsed := s₂.slotsUsed } : State).setVm s₂.vm).frames = .java g₀ :: r := hr
  rcases hq' with ⟨hqc, L, hfe, hL⟩ | ⟨q, rfl, E, ce, L, hx, hce, hcv, hcl, hW₂, hsm, hL⟩
  · obtain ⟨⟨v, rfl⟩, hW₂, e2, q2, q3, q4, q5, q6⟩ := id hfe
    have e3 : s₂ = ({ (U.calling g mk a).setFrames s₂.frames with heap := s₂.heap, slotsUsed := s₂.slotsUsed } : State).setVm s₂.vm := by
      have : s₂ = ({ s₂ with vm := (U.calling g mk a).vm } : State).setVm s₂.vm := rfl
      rw [e2] at this
      exact this
    obtain ⟨c₂, i₂, len₂, hc₂, hd₂, hf₂⟩ := hend
    have hW' : U.WarmedH s₂.vm := hW₂
    have hcc : c₂ = c := by
      have h1 : s₂.code? g.method = U.code? g.method := by
        rw [State.code?_eq, State.code?_eq, hW'.alike.method?]
      exact Option.some.inj (hc₂.symm.trans (h1.trans h.code))
    subst hcc
    have hlen : len₂ = len := by rw [hdg] at hd₂; cases hd₂; rfl
    subst hlen
    have hs₂ : s₂ = (({ U with heap := s₂.heap, slotsUsed := s₂.slotsUsed } : State).setVm s₂.vm).setTop { g with pc := g.pc + len₂, stack := v.toList ++ g.stack } := by
      refine e3.trans ?_
      rw [hf₂, State.calling_eq h.top, State.setFrames_setFrames, State.setTop_of_frames _ hr', hr]
      rfl
    have hsame : U.sameButNew ({ U with heap := s₂.heap, slotsUsed := s₂.slotsUsed } : State) L mc ms := by
      refine ⟨?_, q2, q3, q4, q5, q6⟩
      obtain ⟨t, ht, -⟩ := State.frames_cons hr
      show ({ U with heap := s₂.heap, slotsUsed := s₂.slotsUsed } : State) = { U.setFrames U.frames with heap := s₂.heap, slotsUsed := s₂.slotsUsed }
      rw [State.setFrames_self ht]
    subst hg
    refine Or.inl ⟨v, ⟨(({ U with heap := s₂.heap, slotsUsed := s₂.slotsUsed } : State).setVm s₂.vm), Ls ++ L, c0 + mc, s0 + ms⟩,
      ⟨X.admits, X.cas, X.clock, X.frames, X.room, X.hears, X.method, X.code, (X.here.setHeapUsed s₂.heap s₂.slotsUsed).setVm hW'.alike, X.tail, State.WarmedH.trans X.warmed hW', X.limits, X.bytes, X.same.trans (hsame.setVm s.vm)⟩,
      ⟨g, mk, s₂, L, rfl, rfl, hqc, rfl, hL, rfl, rfl⟩, ?_⟩
    show Steps p.tables e below _ ((({ U with heap := s₂.heap, slotsUsed := s₂.slotsUsed } : State).setVm s₂.vm).setTop { g with pc := g.pc + len₂, stack := v.toList ++ g.stack })
    rw [← hs₂]
    exact hsteps
  · obtain ⟨e2, q2, q3, q4, q5, q6⟩ := id hsm
    have e3 : s₂ = ({ (U.calling g mk a).setFrames s₂.frames with heap := s₂.heap, slotsUsed := s₂.slotsUsed } : State).setVm s₂.vm := by
      have : s₂ = ({ s₂ with vm := (U.calling g mk a).vm } : State).setVm s₂.vm := rfl
      rw [e2] at this
      exact this
    have hf₂ : s₂.frames = .throwing q :: .java g :: U.frames.tail := hend
    have hW' : U.WarmedH s₂.vm := hW₂
    have hs₂ : s₂ = ((({ U with heap := s₂.heap, slotsUsed := s₂.slotsUsed } : State).setVm s₂.vm).setTop g).pushFrame (.throwing q) := by
      refine e3.trans ?_
      rw [hf₂, State.calling_eq h.top, State.setFrames_setFrames, State.pushFrame, State.frames_setTop _ hr', State.setTop_of_frames _ hr', State.setFrames_setFrames, hr]
      rfl
    have hsame : U.sameButNew ({ U with heap := s₂.heap, slotsUsed := s₂.slotsUsed } : State) L mc ms := by
      refine ⟨?_, q2, q3, q4, q5, q6⟩
      obtain ⟨t, ht, -⟩ := State.frames_cons hr
      show ({ U with heap := s₂.heap, slotsUsed := s₂.slotsUsed } : State) = { U.setFrames U.frames with heap := s₂.heap, slotsUsed := s₂.slotsUsed }
      rw [State.setFrames_self ht]
    subst hg
    refine Or.inr ⟨q, ⟨(({ U with heap := s₂.heap, slotsUsed := s₂.slotsUsed } : State).setVm s₂.vm), Ls ++ L, c0 + mc, s0 + ms⟩,
      ⟨X.admits, X.cas, X.clock, X.frames, X.room, X.hears, X.method, X.code, (X.here.setHeapUsed s₂.heap s₂.slotsUsed).setVm hW'.alike, X.tail, State.WarmedH.trans X.warmed hW', X.limits, X.bytes, X.same.trans (hsame.setVm s.vm)⟩,
      ⟨g, mk, s₂, L, E, ce, rfl, rfl, hx, hce, hcv, hcl, rfl, hL, rfl, rfl⟩, ?_⟩
    show Steps p.tables e below _ (((({ U with heap := s₂.heap, slotsUsed := s₂.slotsUsed } : State).setVm s₂.vm).setTop g).pushFrame (.throwing q))
    rw [← hs₂]
    exact hsteps
end Payer
section Calls
variable {p : Program} {l : Launch} {e : Env} {R : Room} {s : State} {m : MethodId} {args : Array Value} {below : List Frame} {meth : Method} {c : Code} {T : State} {locs : List Loc} {cells slots : Nat}
theorem vx_callV (X : Stand p l e R s m args below meth c T locs cells slots) (hexec : p.tables.exec = Jvm.exec) {own C : String} {index : Nat} {y : MethodName} {bytes : ByteArray} {maxL : Nat} {ret : Option FieldType}
    (hown : s.vm.findClass own = some m.cls) (hlink : (Cond.methodLink own index y).before args s = true) (hinst : (Cond.instanceMethod y).before args s = true) (hsel : (Cond.selects C y y).before args s = true)
    (hcode : (Cond.code y bytes maxL ret).before args s = true) (hy : y.cls ≠ "java/lang/invoke/MethodHandle" ∧ y.cls ≠ "java/lang/invoke/VarHandle")
    {W9 : Nat} {Pre : Pt → Array Value → Prop} {Post : Pt → Array Value → Option Value → Pt → Prop} {PostX : Pt → Array Value → Addr → Pt → Prop} (hK : vx_Back l R p e below s args y 3 W9 Pre Post PostX)
    {b : Addr} {cellB : Cell} (hcell : T.heap[b]? = some cellB) (hobj : cellB.vm.isStatics = false) (hcls : s.vm.findClass C = some cellB.cls)
    {g : JFrame} (hg : g.method = m) (hsize : g.locals.size = c.maxLocals) {argsL rest : List Value} (hlen : ∀ sig, parseMethodDescriptor y.desc = some sig → argsL.length = sig.parameters.length)
    (hstack : g.stack = argsL.reverse ++ .ref b :: rest) (hW : 2 * g.monitorRoom + (rest.map fun v => v.category).sum ≤ W9) (hdg : decode c.code g.pc = .ok (.invokevirtual index, 3))
    (hpre : ∀ vm₁, s.WarmedH vm₁ → Pre ⟨T.setVm vm₁, locs, cells, slots⟩ (Value.ref b :: argsL).toArray) :
    (∃ (v : Option Value) (vm₁ : Vm) (B : Pt), s.WarmedH vm₁ ∧ Stand p l e R s m args below meth c B.U B.locs B.cells B.slots ∧ Post ⟨T.setVm vm₁, locs, cells, slots⟩ (Value.ref b :: argsL).toArray v B ∧
      ∀ target, Steps p.tables e below (B.U.setTop { g with pc := g.pc + 3, stack := v.toList ++ rest }) target → Steps p.tables e below (T.setTop g) target) ∨
    (∃ (q : Addr) (vm₁ : Vm) (B : Pt), s.WarmedH vm₁ ∧ Stand p l e R s m args below meth c B.U B.locs B.cells B.slots ∧ PostX ⟨T.setVm vm₁, locs, cells, slots⟩ (Value.ref b :: argsL).toArray q B ∧
      Steps p.tables e below (T.setTop g) ((B.U.setTop { g with stack := rest }).pushFrame (.throwing q))) := by
  obtain ⟨mk, methM, hnamed, hmethM, hstM, habM⟩ := Cond.instanceMethod_spec hinst
  obtain ⟨methM', cM, hmethM', -, -, -, -, -, -, hsigM⟩ := Cond.code_spec hnamed hcode
  cases hmethM.symm.trans hmethM'
  obtain ⟨c2, r2, m2, q1, q2, q3, q4, kP, hkP, hkPi⟩ := Cond.selects_spec hsel
  cases hcls.symm.trans q1
  cases (State.methodFound?_of_named hnamed hy).symm.trans q2
  cases hnamed.symm.trans q3
  have hselP : selectMethod e.platform s.vm cellB.cls mk = .method mk := by rw [Launch.admits_selectMethod X.admits]; exact q4
  obtain ⟨vm₁, X₁, hstep₁⟩ := X.invokevirtual hexec hown hlink hnamed hmethM hstM hkP hkPi hy (a := b) (cell := cellB) hcell
    (fun z h => by rw [h] at hobj; cases hobj) hselP hmethM habM hkP hkPi (g := g) hg (argsL := argsL) (rest := rest) (hlen _ hsigM) hstack hdg
  rcases hK m meth c ⟨T.setVm vm₁, locs, cells, slots⟩ { g with stack := rest } (.invokevirtual index) mk (Value.ref b :: argsL).toArray X₁ hg hsize hdg hW (X₁.named hnamed) (hpre vm₁ X₁.warmed) with ⟨v, B, X', hpost, hsteps⟩ | ⟨q, B, X', hpost, hsteps⟩
  · exact Or.inl ⟨v, vm₁, B, X₁.warmed, X', hpost, fun target h => hstep₁ _ fun acts => by rw [doInvoke_state]; exact hsteps.trans h⟩
  · exact Or.inr ⟨q, vm₁, B, X₁.warmed, X', hpost, hstep₁ _ fun acts => by rw [doInvoke_state]; exact hsteps⟩
theorem vx_callS (X : Stand p l e R s m args below meth c T locs cells slots) (hexec : p.tables.exec = Jvm.exec) {own : String} {index : Nat} {y : MethodName} {bytes : ByteArray} {maxL : Nat} {ret : Option FieldType}
    (hown : s.vm.findClass own = some m.cls) (hlink : (Cond.methodLink own index y).before args s = true) (hstat : (Cond.static y).before args s = true) (hinit : (Cond.initialized y.cls).before args s = true)
    (hcode : (Cond.code y bytes maxL ret).before args s = true) (hy : y.cls ≠ "java/lang/invoke/MethodHandle" ∧ y.cls ≠ "java/lang/invoke/VarHandle")
    {W9 : Nat} {Pre : Pt → Array Value → Prop} {Post : Pt → Array Value → Option Value → Pt → Prop} {PostX : Pt → Array Value → Addr → Pt → Prop} (hK : vx_Back l R p e below s args y 3 W9 Pre Post PostX)
    {g : JFrame} (hg : g.method = m) (hsize : g.locals.size = c.maxLocals) {argsL rest : List Value} (hlen : ∀ sig, parseMethodDescriptor y.desc = some sig → argsL.length = sig.parameters.length)
    (hstack : g.stack = argsL.reverse ++ rest) (hW : 2 * g.monitorRoom + (rest.map fun v => v.category).sum ≤ W9) (hdg : decode c.code g.pc = .ok (.invokestatic index, 3))
    (hpre : ∀ vm₁, s.WarmedH vm₁ → Pre ⟨T.setVm vm₁, locs, cells, slots⟩ argsL.toArray) :
    (∃ (v : Option Value) (vm₁ : Vm) (B : Pt), s.WarmedH vm₁ ∧ Stand p l e R s m args below meth c B.U B.locs B.cells B.slots ∧ Post ⟨T.setVm vm₁, locs, cells, slots⟩ argsL.toArray v B ∧
      ∀ target, Steps p.tables e below (B.U.setTop { g with pc := g.pc + 3, stack := v.toList ++ rest }) target → Steps p.tables e below (T.setTop g) target) ∨
    (∃ (q : Addr) (vm₁ : Vm) (B : Pt), s.WarmedH vm₁ ∧ Stand p l e R s m args below meth c B.U B.locs B.cells B.slots ∧ PostX ⟨T.setVm vm₁, locs, cells, slots⟩ argsL.toArray q B ∧
      Steps p.tables e below (T.setTop g) ((B.U.setTop { g with stack := rest }).pushFrame (.throwing q))) := by
  obtain ⟨mk, hnamed⟩ := Cond.code_named hcode
  obtain ⟨methM, cM, hmethM, -, -, -, -, -, -, hsigM⟩ := Cond.code_spec hnamed hcode
  have hstatic : methM.isStatic = true := Cond.static_spec hnamed hmethM hstat
  obtain ⟨kP, hkP, -⟩ := className_of_methodNamed hnamed
  have hinitP : kP.init = .initialized := Cond.initialized_spec (findClass_of_methodNamed hnamed) hkP hinit
  obtain ⟨vm₁, X₁, hstep₁⟩ := X.invokestatic hexec hown hlink hnamed hmethM hstatic hkP hinitP hy (g := g) hg (argsL := argsL) (rest := rest) (hlen _ hsigM) hstack hdg
  rcases hK m meth c ⟨T.setVm vm₁, locs, cells, slots⟩ { g with stack := rest } (.invokestatic index) mk argsL.toArray X₁ hg hsize hdg hW (X₁.named hnamed) (hpre vm₁ X₁.warmed) with ⟨v, B, X', hpost, hsteps⟩ | ⟨q, B, X', hpost, hsteps⟩
  · exact Or.inl ⟨v, vm₁, B, X₁.warmed, X', hpost, fun target h => hstep₁ _ fun acts => by rw [doInvoke_state]; exact hsteps.trans h⟩
  · exact Or.inr ⟨q, vm₁, B, X₁.warmed, X', hpost, hstep₁ _ fun acts => by rw [doInvoke_state]; exact hsteps⟩
end Calls
theorem vx_cls {s : State} {T : State} {vm₁ : Vm} {E : String} {k : ClassId} (hW : s.WarmedH vm₁) (h : (T.setVm vm₁).vm.findClass E = some k) : s.vm.findClass E = some k := by
  have h1 : vm₁.findClass E = some k := h
  rw [hW.alike.findClass] at h1
  exact h1
/-- the method's frame g, with q thrown over it -/
def vx_W (p : Program) (l : Launch) (e : Env) (R : Room) (s : State) (m : MethodId) (args : Array Value) (below : List Frame) (meth : Method) (c : Code) (H : Heap) (locs : List Loc) (cells slots : Nat) (Q : State → Prop) (g : JFrame) (q : Addr) : Prop :=
  ∀ T : State, T.heap = H → Stand p l e R s m args below meth c T locs cells slots → ∃ t, Steps p.tables e below ((T.setTop g).pushFrame (.throwing q)) t ∧ Q t
def vx_Run (p : Program) (l : Launch) (e : Env) (R : Room) (s : State) (m : MethodId) (args : Array Value) (below : List Frame) (meth : Method) (c : Code) (H : Heap) (locs : List Loc) (cells slots mc ms : Nat) (g : JFrame) (rest : List Value) (Qa : State → Outcome → State → Prop) (XC : String → State → State → Prop) (free : Addr → Prop) : Prop :=
  ∀ T : State, T.heap = H → Stand p l e R s m args below meth c T locs cells slots →
    (∃ (v : Option Value) (st₀ t T' : State) (L : List Loc), st₀.heap = H ∧ Stand p l e R s m args below meth c T' (locs ++ L) (cells + mc) (slots + ms) ∧ (∀ q ∈ L, free q.base) ∧ T'.heap = t.heap ∧ T'.vm = t.vm ∧ Qa st₀ (.returned v) t ∧
      Goes p e below T g T' { g with pc := g.pc + 3, stack := v.toList ++ rest }) ∨
    (∃ (q : Addr) (st₀ t T' : State) (L : List Loc) (E : String) (ce : Cell), st₀.heap = H ∧ Stand p l e R s m args below meth c T' (locs ++ L) (cells + mc) (slots + ms) ∧ (∀ z ∈ L, free z.base) ∧ T'.heap = t.heap ∧ T'.vm = t.vm ∧ XC E st₀ t ∧ t.heap[q]? = some ce ∧ ce.vm = .none ∧ s.vm.findClass E = some ce.cls ∧
      Steps p.tables e below (T.setTop g) ((T'.setTop { g with stack := rest }).pushFrame (.throwing q)))
def vx_X {S : Type} (px : S → Prop) (B : String → S → State → Prop) (A : Nat → Prop) : String → State → State → Prop := fun E st t => ∃ u : S, px u ∧ B E u t ∧ va_F A st t
section Runs
variable {p : Program} {l : Launch} {e : Env} {R : Room} {s : State} {m : MethodId} {args : Array Value} {below : List Frame} {meth : Method} {c : Code} {H : Heap} {locs : List Loc} {cells slots : Nat}
variable {y : MethodName} {bytes cc : ByteArray} {maxL nL mc ms n index : Nat} {ret : Option FieldType} {ws : List Cond} {rm : Room} {Pc : Array Value → State → Prop} {Qc : Array Value → State → Outcome → State → Prop} {XC : String → State → State → Prop} {free : Addr → Prop} {Ts : List Cond} {own C : String} {b : Addr} {As rest : List Value} {g : JFrame}
theorem vx_callBack (cb : CallB R s args own index y bytes maxL ret ws rm mc ms n) (hM : vx_Met l y ws rm Pc Qc XC mc ms free) (hbl : FrameBlind Pc) : vx_Back l R p e below s args y 3 8 (PreOf R mc ms Pc) (PostOf Qc mc ms free) (vx_Post XC mc ms free) := by
  obtain ⟨hrc, hrs, hfr, hlo, hws, hcw, -, hini, -⟩ := cb
  exact vx_back (bytes := bytes) (maxL := maxL) (ret := ret) hM hbl hrc hrs hfr hlo hws hcw (fun a' U hW => word_at hW (Or.inl (by first | rfl | simp [Cond.onTables, Cond.keeps, Cond.steady])) hini)
theorem vx_runV (S : CallFix p m c cc nL s args Ts own) (hM : vx_Met l y ws rm Pc Qc XC mc ms free) (cw : CallW R s args own C index y bytes maxL ret ws rm mc ms n) (hp : PreV s H C b Pc As)
    (hg : g.method = m) (hn : As.length = n) (hsize : g.locals.size = nL) (hstack : g.stack = As.reverse ++ .ref b :: rest) (hW : 2 * g.monitorRoom + (rest.map fun v => v.category).sum ≤ 8) (hdg : decode cc g.pc = .ok (.invokevirtual index, 3)) (hf : cells + mc ≤ R.cells ∧ slots + ms ≤ R.slots) :
    vx_Run p l e R s m args below meth c H locs cells slots mc ms g rest (Qc (Value.ref b :: As).toArray) XC free := by
  have hK : vx_Back l R p e below s args y 3 8 (PreOf R mc ms Pc) (PostOf Qc mc ms free) (vx_Post XC mc ms free) := vx_callBack cw.1 hM hp.1
  obtain ⟨⟨-, -, -, -, -, -, hcode, -, hy, hlen, hl⟩, hin, hse⟩ := cw
  obtain ⟨hx, hb, hml, ho, -⟩ := S
  obtain ⟨-, ⟨cellB, hcB, hoB, hclB⟩, hPc⟩ := hp
  intro T hT X
  rcases vx_callV X hx (C := C) (bytes := bytes) (maxL := maxL) (ret := ret) ho hl hin hse hcode hy hK (by rw [hT]; exact hcB) hoB hclB hg (hsize.trans hml.symm) (argsL := As) (rest := rest) (fun sig h => hn.trans (hlen sig h)) hstack hW (by rw [hb]; exact hdg)
    (fun vm₁ hW₁ => ⟨hf.1, hf.2, hPc (T.setVm vm₁) hT hW₁⟩) with ⟨v, vm₁, ⟨U', l2, c2, s2⟩, hW₁, X', ⟨g', mk, t, L, e1, e2, hq, h1, hL, h2, h3⟩, st⟩ | ⟨q, vm₁, ⟨U', l2, c2, s2⟩, hW₁, X', ⟨g', mk, t, L, E, ce, e1, e2, hq, hce, hcv, hcl, h1, hL, h2, h3⟩, st⟩
  · dsimp only [Pt.U, Pt.locs, Pt.cells, Pt.slots] at X' e1 e2 h1 h2 h3 st
    subst h1; subst h2; subst h3
    exact Or.inl ⟨v, (T.setVm vm₁).calling g' mk (Value.ref b :: As).toArray, t, U', L, hT, X', hL, e1, e2, hq, st⟩
  · dsimp only [Pt.U, Pt.locs, Pt.cells, Pt.slots] at X' e1 e2 h1 h2 h3 st hcl
    subst h1; subst h2; subst h3
    exact Or.inr ⟨q, (T.setVm vm₁).calling g' mk (Value.ref b :: As).toArray, t, U', L, E, ce, hT, X', hL, e1, e2, hq, hce, hcv, vx_cls hW₁ hcl, st⟩
theorem vx_runS (S : CallFix p m c cc nL s args Ts own) (hM : vx_Met l y ws rm Pc Qc XC mc ms free) (cw : CallB R s args own index y bytes maxL ret ws rm mc ms n ∧ (Cond.static y).before args s = true) (hp : PreS s H Pc As)
    (hg : g.method = m) (hn : As.length = n) (hsize : g.locals.size = nL) (hstack : g.stack = As.reverse ++ rest) (hW : 2 * g.monitorRoom + (rest.map fun v => v.category).sum ≤ 8) (hdg : decode cc g.pc = .ok (.invokestatic index, 3)) (hf : cells + mc ≤ R.cells ∧ slots + ms ≤ R.slots) :
    vx_Run p l e R s m args below meth c H locs cells slots mc ms g rest (Qc As.toArray) XC free := by
  have hK : vx_Back l R p e below s args y 3 8 (PreOf R mc ms Pc) (PostOf Qc mc ms free) (vx_Post XC mc ms free) := vx_callBack cw.1 hM hp.1
  obtain ⟨⟨-, -, -, -, -, -, hcode, hini, hy, hlen, hl⟩, hstt⟩ := cw
  obtain ⟨hx, hb, hml, ho, -⟩ := S
  intro T hT X
  rcases vx_callS X hx (bytes := bytes) (maxL := maxL) (ret := ret) ho hl hstt hini hcode hy hK hg (hsize.trans hml.symm) (argsL := As) (rest := rest) (fun sig h => hn.trans (hlen sig h)) hstack hW (by rw [hb]; exact hdg)
    (fun vm₁ hW₁ => ⟨hf.1, hf.2, hp.2 (T.setVm vm₁) hT hW₁⟩) with ⟨v, vm₁, ⟨U', l2, c2, s2⟩, hW₁, X', ⟨g', mk, t, L, e1, e2, hq, h1, hL, h2, h3⟩, st⟩ | ⟨q, vm₁, ⟨U', l2, c2, s2⟩, hW₁, X', ⟨g', mk, t, L, E, ce, e1, e2, hq, hce, hcv, hcl, h1, hL, h2, h3⟩, st⟩
  · dsimp only [Pt.U, Pt.locs, Pt.cells, Pt.slots] at X' e1 e2 h1 h2 h3 st
    subst h1; subst h2; subst h3
    exact Or.inl ⟨v, (T.setVm vm₁).calling g' mk As.toArray, t, U', L, hT, X', hL, e1, e2, hq, st⟩
  · dsimp only [Pt.U, Pt.locs, Pt.cells, Pt.slots] at X' e1 e2 h1 h2 h3 st hcl
    subst h1; subst h2; subst h3
    exact Or.inr ⟨q, (T.setVm vm₁).calling g' mk As.toArray, t, U', L, E, ce, hT, X', hL, e1, e2, hq, hce, hcv, vx_cls hW₁ hcl, st⟩
end Runs
section Rows
variable {p : Program} {l : Launch} {e : Env} {R : Room} {s : State} {m : MethodId} {args : Array Value} {below : List Frame} {meth : Method} {c : Code} {H : Heap} {locs : List Loc} {cells slots : Nat} {Q : State → Prop}
variable {mc ms : Nat} {free : Addr → Prop} {A0 A1 : Nat → Prop} {H0 : Heap} {a : Array Value} {pc : Nat} {ls : Array Slot} {st0 rest : List Value}
theorem vx_keep {st₀ t T' : State} {L : List Loc} (h0 : st₀.heap = H) (e1 : T'.heap = t.heap) (hS : va_S A0 H0 H locs) (hA : ∀ q, q < H.size → A1 q → A0 q) (hf : ∀ q, free q → A0 q) (hL : ∀ q ∈ L, free q.base) (hF : va_F A1 st₀ t) :
    H.size ≤ T'.heap.size ∧ (∀ q : Nat, q < H.size → ¬ A1 q → T'.heap[q]? = H[q]?) ∧ va_S A0 H0 T'.heap (locs ++ L) := by
  obtain ⟨hz, hk⟩ := hF
  rw [h0] at hz hk
  exact ⟨by rw [e1]; exact hz, fun q h1 h2 => by rw [e1]; exact hk q h1 h2,
    ⟨Nat.le_trans hS.1 (by rw [e1]; exact hz), fun q h1 h2 => by rw [e1, hk q (Nat.lt_of_lt_of_le h1 hS.1) (fun z => h2 (hA q (Nat.lt_of_lt_of_le h1 hS.1) z))]; exact hS.2.1 q h1 h2, fun q hq => by
      rcases List.mem_append.mp hq with h | h
      · exact hS.2.2 q h
      · exact hf _ (hL q h)⟩⟩
theorem vx_calli {S SX : Type} {post : Int32 → S → Prop} {px : SX → Prop} {B : S → State → Prop} {BX : String → SX → State → Prop} {AX : Nat → Prop} (hr : vx_Run p l e R s m args below meth c H locs cells slots mc ms (F0 m pc ls st0) rest (va_Qi post B A1 a) (vx_X px BX AX) free) (hS : va_S A0 H0 H locs) (hA : ∀ q, q < H.size → A1 q → A0 q) (hf : ∀ q, free q → A0 q) (hAX : ∀ q, q < H.size → AX q → A0 q)
    (kx : ∀ (E : String) (ce : Cell) (q9 : Addr) (u : SX) (t : State) (H1 : Heap) (locs1 : List Loc), t.heap = H1 → s.vm.Alike t.vm → px u → BX E u t → H.size ≤ H1.size → (∀ q : Nat, q < H.size → ¬ AX q → H1[q]? = H[q]?) → va_S A0 H0 H1 locs1 → H1[q9]? = some ce → ce.vm = .none → s.vm.findClass E = some ce.cls → vx_W p l e R s m args below meth c H1 locs1 (cells + mc) (slots + ms) Q (F0 m pc ls rest) q9)
    (kk : ∀ (r : Int32) (u : S) (t : State) (H1 : Heap) (locs1 : List Loc), t.heap = H1 → s.vm.Alike t.vm → post r u → B u t → H.size ≤ H1.size → (∀ q : Nat, q < H.size → ¬ A1 q → H1[q]? = H[q]?) → va_S A0 H0 H1 locs1 → W p l e R s m args below meth c H1 locs1 (cells + mc) (slots + ms) Q (F0 m (pc + 3) ls (.int r :: rest))) : W p l e R s m args below meth c H locs cells slots Q (F0 m pc ls st0) := by
  intro T hT X
  rcases hr T hT X with ⟨v, st₀, t, T', L, h0, X', hL, e1, e2, ⟨⟨r, u, hv, hp, hb⟩, hF⟩, st⟩ | ⟨q, st₀, t, T', L, E, ce, h0, X', hL, e1, e2, ⟨u, hp, hb, hF⟩, hce, hcv, hcl, st⟩
  · cases hv
    obtain ⟨k1, k2, k3⟩ := vx_keep h0 e1 hS hA hf hL hF
    obtain ⟨t2, a1, b1⟩ := kk r u t T'.heap (locs ++ L) e1.symm (by rw [← e2]; exact X'.warmed.alike) hp hb k1 k2 k3 T' rfl X'
    exact ⟨t2, st t2 a1, b1⟩
  · obtain ⟨k1, k2, k3⟩ := vx_keep h0 e1 hS hAX hf hL hF
    obtain ⟨t2, a1, b1⟩ := kx E ce q u t T'.heap (locs ++ L) e1.symm (by rw [← e2]; exact X'.warmed.alike) hp hb k1 k2 k3 (by rw [e1]; exact hce) hcv hcl T' rfl X'
    exact ⟨t2, st.trans a1, b1⟩
theorem vx_calll {S SX : Type} {post : Int64 → S → Prop} {px : SX → Prop} {B : S → State → Prop} {BX : String → SX → State → Prop} {AX : Nat → Prop} (hr : vx_Run p l e R s m args below meth c H locs cells slots mc ms (F0 m pc ls st0) rest (va_Ql post B A1 a) (vx_X px BX AX) free) (hS : va_S A0 H0 H locs) (hA : ∀ q, q < H.size → A1 q → A0 q) (hf : ∀ q, free q → A0 q) (hAX : ∀ q, q < H.size → AX q → A0 q)
    (kx : ∀ (E : String) (ce : Cell) (q9 : Addr) (u : SX) (t : State) (H1 : Heap) (locs1 : List Loc), t.heap = H1 → s.vm.Alike t.vm → px u → BX E u t → H.size ≤ H1.size → (∀ q : Nat, q < H.size → ¬ AX q → H1[q]? = H[q]?) → va_S A0 H0 H1 locs1 → H1[q9]? = some ce → ce.vm = .none → s.vm.findClass E = some ce.cls → vx_W p l e R s m args below meth c H1 locs1 (cells + mc) (slots + ms) Q (F0 m pc ls rest) q9)
    (kk : ∀ (r : Int64) (u : S) (t : State) (H1 : Heap) (locs1 : List Loc), t.heap = H1 → s.vm.Alike t.vm → post r u → B u t → H.size ≤ H1.size → (∀ q : Nat, q < H.size → ¬ A1 q → H1[q]? = H[q]?) → va_S A0 H0 H1 locs1 → W p l e R s m args below meth c H1 locs1 (cells + mc) (slots + ms) Q (F0 m (pc + 3) ls (.long r :: rest))) : W p l e R s m args below meth c H locs cells slots Q (F0 m pc ls st0) := by
  intro T hT X
  rcases hr T hT X with ⟨v, st₀, t, T', L, h0, X', hL, e1, e2, ⟨⟨r, u, hv, hp, hb⟩, hF⟩, st⟩ | ⟨q, st₀, t, T', L, E, ce, h0, X', hL, e1, e2, ⟨u, hp, hb, hF⟩, hce, hcv, hcl, st⟩
  · cases hv
    obtain ⟨k1, k2, k3⟩ := vx_keep h0 e1 hS hA hf hL hF
    obtain ⟨t2, a1, b1⟩ := kk r u t T'.heap (locs ++ L) e1.symm (by rw [← e2]; exact X'.warmed.alike) hp hb k1 k2 k3 T' rfl X'
    exact ⟨t2, st t2 a1, b1⟩
  · obtain ⟨k1, k2, k3⟩ := vx_keep h0 e1 hS hAX hf hL hF
    obtain ⟨t2, a1, b1⟩ := kx E ce q u t T'.heap (locs ++ L) e1.symm (by rw [← e2]; exact X'.warmed.alike) hp hb k1 k2 k3 (by rw [e1]; exact hce) hcv hcl T' rfl X'
    exact ⟨t2, st.trans a1, b1⟩
theorem vx_callf {S SX : Type} {post : UInt32 → S → Prop} {px : SX → Prop} {B : S → State → Prop} {BX : String → SX → State → Prop} {AX : Nat → Prop} (hr : vx_Run p l e R s m args below meth c H locs cells slots mc ms (F0 m pc ls st0) rest (va_Qf post B A1 a) (vx_X px BX AX) free) (hS : va_S A0 H0 H locs) (hA : ∀ q, q < H.size → A1 q → A0 q) (hf : ∀ q, free q → A0 q) (hAX : ∀ q, q < H.size → AX q → A0 q)
    (kx : ∀ (E : String) (ce : Cell) (q9 : Addr) (u : SX) (t : State) (H1 : Heap) (locs1 : List Loc), t.heap = H1 → s.vm.Alike t.vm → px u → BX E u t → H.size ≤ H1.size → (∀ q : Nat, q < H.size → ¬ AX q → H1[q]? = H[q]?) → va_S A0 H0 H1 locs1 → H1[q9]? = some ce → ce.vm = .none → s.vm.findClass E = some ce.cls → vx_W p l e R s m args below meth c H1 locs1 (cells + mc) (slots + ms) Q (F0 m pc ls rest) q9)
    (kk : ∀ (r : UInt32) (u : S) (t : State) (H1 : Heap) (locs1 : List Loc), t.heap = H1 → s.vm.Alike t.vm → post r u → B u t → H.size ≤ H1.size → (∀ q : Nat, q < H.size → ¬ A1 q → H1[q]? = H[q]?) → va_S A0 H0 H1 locs1 → W p l e R s m args below meth c H1 locs1 (cells + mc) (slots + ms) Q (F0 m (pc + 3) ls (.float r :: rest))) : W p l e R s m args below meth c H locs cells slots Q (F0 m pc ls st0) := by
  intro T hT X
  rcases hr T hT X with ⟨v, st₀, t, T', L, h0, X', hL, e1, e2, ⟨⟨r, u, hv, hp, hb⟩, hF⟩, st⟩ | ⟨q, st₀, t, T', L, E, ce, h0, X', hL, e1, e2, ⟨u, hp, hb, hF⟩, hce, hcv, hcl, st⟩
  · cases hv
    obtain ⟨k1, k2, k3⟩ := vx_keep h0 e1 hS hA hf hL hF
    obtain ⟨t2, a1, b1⟩ := kk r u t T'.heap (locs ++ L) e1.symm (by rw [← e2]; exact X'.warmed.alike) hp hb k1 k2 k3 T' rfl X'
    exact ⟨t2, st t2 a1, b1⟩
  · obtain ⟨k1, k2, k3⟩ := vx_keep h0 e1 hS hAX hf hL hF
    obtain ⟨t2, a1, b1⟩ := kx E ce q u t T'.heap (locs ++ L) e1.symm (by rw [← e2]; exact X'.warmed.alike) hp hb k1 k2 k3 (by rw [e1]; exact hce) hcv hcl T' rfl X'
    exact ⟨t2, st.trans a1, b1⟩
theorem vx_calld {S SX : Type} {post : UInt64 → S → Prop} {px : SX → Prop} {B : S → State → Prop} {BX : String → SX → State → Prop} {AX : Nat → Prop} (hr : vx_Run p l e R s m args below meth c H locs cells slots mc ms (F0 m pc ls st0) rest (va_Qd post B A1 a) (vx_X px BX AX) free) (hS : va_S A0 H0 H locs) (hA : ∀ q, q < H.size → A1 q → A0 q) (hf : ∀ q, free q → A0 q) (hAX : ∀ q, q < H.size → AX q → A0 q)
    (kx : ∀ (E : String) (ce : Cell) (q9 : Addr) (u : SX) (t : State) (H1 : Heap) (locs1 : List Loc), t.heap = H1 → s.vm.Alike t.vm → px u → BX E u t → H.size ≤ H1.size → (∀ q : Nat, q < H.size → ¬ AX q → H1[q]? = H[q]?) → va_S A0 H0 H1 locs1 → H1[q9]? = some ce → ce.vm = .none → s.vm.findClass E = some ce.cls → vx_W p l e R s m args below meth c H1 locs1 (cells + mc) (slots + ms) Q (F0 m pc ls rest) q9)
    (kk : ∀ (r : UInt64) (u : S) (t : State) (H1 : Heap) (locs1 : List Loc), t.heap = H1 → s.vm.Alike t.vm → post r u → B u t → H.size ≤ H1.size → (∀ q : Nat, q < H.size → ¬ A1 q → H1[q]? = H[q]?) → va_S A0 H0 H1 locs1 → W p l e R s m args below meth c H1 locs1 (cells + mc) (slots + ms) Q (F0 m (pc + 3) ls (.double r :: rest))) : W p l e R s m args below meth c H locs cells slots Q (F0 m pc ls st0) := by
  intro T hT X
  rcases hr T hT X with ⟨v, st₀, t, T', L, h0, X', hL, e1, e2, ⟨⟨r, u, hv, hp, hb⟩, hF⟩, st⟩ | ⟨q, st₀, t, T', L, E, ce, h0, X', hL, e1, e2, ⟨u, hp, hb, hF⟩, hce, hcv, hcl, st⟩
  · cases hv
    obtain ⟨k1, k2, k3⟩ := vx_keep h0 e1 hS hA hf hL hF
    obtain ⟨t2, a1, b1⟩ := kk r u t T'.heap (locs ++ L) e1.symm (by rw [← e2]; exact X'.warmed.alike) hp hb k1 k2 k3 T' rfl X'
    exact ⟨t2, st t2 a1, b1⟩
  · obtain ⟨k1, k2, k3⟩ := vx_keep h0 e1 hS hAX hf hL hF
    obtain ⟨t2, a1, b1⟩ := kx E ce q u t T'.heap (locs ++ L) e1.symm (by rw [← e2]; exact X'.warmed.alike) hp hb k1 k2 k3 (by rw [e1]; exact hce) hcv hcl T' rfl X'
    exact ⟨t2, st.trans a1, b1⟩
theorem vx_callv {S SX : Type} {post : S → Prop} {px : SX → Prop} {B : S → State → Prop} {BX : String → SX → State → Prop} {AX : Nat → Prop} (hr : vx_Run p l e R s m args below meth c H locs cells slots mc ms (F0 m pc ls st0) rest (va_Qv post B A1 a) (vx_X px BX AX) free) (hS : va_S A0 H0 H locs) (hA : ∀ q, q < H.size → A1 q → A0 q) (hf : ∀ q, free q → A0 q) (hAX : ∀ q, q < H.size → AX q → A0 q)
    (kx : ∀ (E : String) (ce : Cell) (q9 : Addr) (u : SX) (t : State) (H1 : Heap) (locs1 : List Loc), t.heap = H1 → s.vm.Alike t.vm → px u → BX E u t → H.size ≤ H1.size → (∀ q : Nat, q < H.size → ¬ AX q → H1[q]? = H[q]?) → va_S A0 H0 H1 locs1 → H1[q9]? = some ce → ce.vm = .none → s.vm.findClass E = some ce.cls → vx_W p l e R s m args below meth c H1 locs1 (cells + mc) (slots + ms) Q (F0 m pc ls rest) q9)
    (kk : ∀ (u : S) (t : State) (H1 : Heap) (locs1 : List Loc), t.heap = H1 → s.vm.Alike t.vm → post u → B u t → H.size ≤ H1.size → (∀ q : Nat, q < H.size → ¬ A1 q → H1[q]? = H[q]?) → va_S A0 H0 H1 locs1 → W p l e R s m args below meth c H1 locs1 (cells + mc) (slots + ms) Q (F0 m (pc + 3) ls (rest))) : W p l e R s m args below meth c H locs cells slots Q (F0 m pc ls st0) := by
  intro T hT X
  rcases hr T hT X with ⟨v, st₀, t, T', L, h0, X', hL, e1, e2, ⟨⟨u, hv, hp, hb⟩, hF⟩, st⟩ | ⟨q, st₀, t, T', L, E, ce, h0, X', hL, e1, e2, ⟨u, hp, hb, hF⟩, hce, hcv, hcl, st⟩
  · cases hv
    obtain ⟨k1, k2, k3⟩ := vx_keep h0 e1 hS hA hf hL hF
    obtain ⟨t2, a1, b1⟩ := kk u t T'.heap (locs ++ L) e1.symm (by rw [← e2]; exact X'.warmed.alike) hp hb k1 k2 k3 T' rfl X'
    exact ⟨t2, st t2 a1, b1⟩
  · obtain ⟨k1, k2, k3⟩ := vx_keep h0 e1 hS hAX hf hL hF
    obtain ⟨t2, a1, b1⟩ := kx E ce q u t T'.heap (locs ++ L) e1.symm (by rw [← e2]; exact X'.warmed.alike) hp hb k1 k2 k3 (by rw [e1]; exact hce) hcv hcl T' rfl X'
    exact ⟨t2, st.trans a1, b1⟩
/-- caught by the row x of this method's table; the rows ahead don't take it -/
theorem vx_catch {own name : String} {E : String} {ce : Cell} {q : Addr} (hown : s.vm.findClass own = some m.cls) (pre : List ExceptionTableEntry) (x : ExceptionTableEntry) (suf : List ExceptionTableEntry) (hsplit : c.exceptionTable.toList = pre ++ x :: suf)
    (hpass : ∀ z ∈ pre, covers z pc = false ∨ (z.catchType ≠ 0 ∧ ∃ nm : String, (Cond.classLink own z.catchType nm).before args s = true ∧ va_Nc E nm s)) (hx : covers x pc = true) (h0 : x.catchType ≠ 0)
    (hlink : (Cond.classLink own x.catchType name).before args s = true) (hcast : (Cond.castable E name).before args s = true) (hcell : H[q]? = some ce) (hv : ce.vm = .none) (hcl : s.vm.findClass E = some ce.cls)
    (kk : W p l e R s m args below meth c H locs cells slots Q (F0 m x.handlerPc ls [.ref q])) : vx_W p l e R s m args below meth c H locs cells slots Q (F0 m pc ls rest) q := by
  intro T hT X
  have hpl : e.platform.magicAccessors = ({} : Platform).magicAccessors := by rw [X.admits.platform]
  obtain ⟨c3, c4, hc3, hc4, hasg⟩ := Cond.castable_spec hcast
  cases Option.some.inj (hc3.symm.trans hcl)
  obtain ⟨c5, hc5, hcl5⟩ := Cond.classLink_spec hown hlink e.platform hpl
  cases Option.some.inj (hc4.symm.trans hc5)
  obtain ⟨vm', X', st⟩ := X.thenCaughtThrough q (g := F0 m pc ls rest) rfl (Steps.refl _) (by rw [hT]; exact hcell) (by rw [hv]; rfl) (by obtain ⟨k9, h9, -⟩ := Vm.findClass_spec hcl; exact ⟨k9, h9⟩) pre x suf hsplit
    (fun z hz => by
      rcases hpass z hz with h | ⟨hz0, nm, hl1, hn1⟩
      · exact Or.inl h
      · obtain ⟨c6, hc6, hcl6⟩ := Cond.classLink_spec hown hl1 e.platform hpl
        obtain ⟨a8, b8, h1, h2, h3⟩ := hn1
        cases Option.some.inj (h1.symm.trans hcl)
        cases Option.some.inj (h2.symm.trans hc6)
        exact Or.inr ⟨hz0, _, hcl6, h3⟩) hx (Or.inr ⟨h0, c4, hcl5, hasg⟩)
  obtain ⟨t, a1, b1⟩ := kk (T.setVm vm') hT X'
  exact ⟨t, st.trans a1, b1⟩
end Rows
section Ends
variable {p : Program} {l : Launch} {e : Env} {R : Room} {s : State} {m : MethodId} {args : Array Value} {below : List Frame} {meth : Method} {c : Code} {H : Heap} {locs : List Loc} {cells slots : Nat} {Q : State → Prop}
variable {mc ms : Nat} {free : Addr → Prop} {A0 A1 : Nat → Prop} {H0 : Heap} {a : Array Value} {ls : Array Slot} {st0 rest : List Value}
variable {Qc : Array Value → State → Outcome → State → Prop} {XC : String → State → State → Prop}
/-- what a body that may throw owes at its end -/
def vx_MQ (below : List Frame) (Qc : Array Value → State → Outcome → State → Prop) (XC : String → State → State → Prop) (a : Array Value) (s : State) (mc ms : Nat) (free : Addr → Prop) : State → Prop := fun t =>
  ∃ o, t.status = .running ∧ Ended t below o ∧ vx_Q Qc XC mc ms free a s o t
theorem vx_ret {g : JFrame} {mc ms : Nat} (k : W p l e R s m args below meth c H locs cells slots (MQ below Qc args s mc ms free) g) : W p l e R s m args below meth c H locs cells slots (vx_MQ below Qc XC args s mc ms free) g := by
  intro T hT X
  obtain ⟨t, a1, o, b1, b2, b3, b4⟩ := k T hT X
  exact ⟨t, a1, o, b1, b2, Or.inl ⟨b3, b4⟩⟩
/-- not caught here: it goes on to the caller -/
theorem vx_widen {g : JFrame} {q : Addr} {k n : Nat} (h1 : cells ≤ k) (h2 : slots ≤ n) (kk : vx_W p l e R s m args below meth c H locs k n Q g q) : vx_W p l e R s m args below meth c H locs cells slots Q g q := fun T hT X => kk T hT (stand_widen X h1 h2)
theorem vx_out {pc : Nat} {E : String} {ce : Cell} {q : Addr} {mc ms : Nat} (hout : ∀ x ∈ c.exceptionTable.toList, covers x pc = false) (hlocks : meth.locks = false) (hcell : H[q]? = some ce) (hv : ce.vm = .none) (hcl : s.vm.findClass E = some ce.cls)
    (hx : ∀ t : State, t.heap = H → s.vm.Alike t.vm → XC E s t) (hf : ∀ z ∈ locs, free z.base) (hc : cells ≤ mc) (hs : slots ≤ ms) :
    vx_W p l e R s m args below meth c H locs cells slots (vx_MQ below Qc XC args s mc ms free) (F0 m pc ls rest) q := by
  intro T hT X
  obtain ⟨st1, hrun, hend, hW, hsm⟩ := X.leaveThrown q (g := F0 m pc ls rest) rfl rfl rfl hout hlocks
  have hcell9 : (T.setFrames (.throwing q :: below)).heap[q]? = some ce := by
    show T.heap[q]? = some ce
    rw [hT]; exact hcell
  exact ⟨_, st1, .threw q, hrun, hend, Or.inr ⟨q, rfl, E, ce, locs, hx _ hT hW.alike, hcell9, hv, hcl, hW, hsm.mono hc hs, hf⟩⟩
theorem vx_frame {U : State} {k n : Nat} (h : s.sameButNew ({ U with vm := s.vm } : State) locs k n) : s.heap.size ≤ U.heap.size ∧ ∀ q : Nat, q < s.heap.size → (∀ z ∈ locs, z.base ≠ q) → U.heap[q]? = s.heap[q]? := by
  obtain ⟨-, h2, -, -, -, h6⟩ := h
  refine ⟨h2, fun q hq hz => ?_⟩
  obtain ⟨c9, e1, e2, e3, e4⟩ := h6 q _ (Array.getElem?_eq_getElem hq)
  have hs : c9.slots = (s.heap[q]).slots := Array.ext_getElem? fun i => e4 i fun hm => hz _ hm rfl
  have h9 : c9 = s.heap[q] := by
    rw [hs] at e2
    exact e2
  have e5 : U.heap[q]? = some c9 := e1
  rw [e5, h9, Array.getElem?_eq_getElem hq]
/-- the words of a throw but the four that speak of the heap -/
def vx_no (w : Cond) : Bool := decide (w ≠ .isRef (.static Bundle.tN "UNASSIGNED_STACK" Bundle.steD)) && decide (w ≠ .isRef (.static Bundle.tN "SUPPRESSED_SENTINEL" Bundle.listD)) && decide (w ≠ .laysStatic Bundle.tN "UNASSIGNED_STACK" Bundle.steD) && decide (w ≠ .laysStatic Bundle.tN "SUPPRESSED_SENTINEL" Bundle.listD)
def vx_at0 (own : String) (ic : Nat) (X : String) (names : List String) : List Cond := (Bundle.ownAtoms0 own ic X names).filter vx_no
def vx_atS (own : String) (ic : Nat) (X : String) (names : List String) : List Cond := (Bundle.ownAtoms own ic X names).filter vx_no
/-- a word that the tables alone decide, or a good one -/
def vx_ot (w : Cond) : Bool := w.onTables || goodWord w
theorem vx_ot_at {args a' : Array Value} {s U : State} {w : Cond} (hW : s.WarmedH U.vm) (hvm : s.vm = U.vm) (hg : vx_ot w = true) (h : w.before args s = true) : w.before a' U = true := by
  simp only [vx_ot, Bool.or_eq_true] at hg
  rcases hg with hg | hg
  · exact va_tabs hg hvm h
  · exact word_at hW (good_of_word hg) h
/-- a list's words: the good ones out of the method's own list, the others by premises of their own -/
theorem vx_hat {args : Array Value} {s : State} {L B : List Cond} (h1 : ∀ w ∈ L.filter goodWord, w.before args s = true) (h2 : ∀ w ∈ L.filter (fun w => !goodWord w), w ∈ B) (h3 : ∀ w ∈ B, w.before args s = true) : ∀ w ∈ L, w.before args s = true := by
  intro w hw
  by_cases g : goodWord w = true
  · exact h1 w (List.mem_filter.mpr ⟨hw, g⟩)
  · refine h3 w (h2 w (List.mem_filter.mpr ⟨hw, ?_⟩))
    show (!goodWord w) = true
    cases hgw : goodWord w
    · rfl
    · exact absurd hgw g
theorem vx_c {args : Array Value} {s : State} {w : Cond} {B : List Cond} (h : w.before args s = true) (t : ∀ w ∈ B, w.before args s = true) : ∀ w' ∈ w :: B, w'.before args s = true := fun w' h' => (List.mem_cons.mp h').elim (fun e => by rw [e]; exact h) (t w')
theorem vx_n {args : Array Value} {s : State} : ∀ w ∈ ([] : List Cond), w.before args s = true := fun _ h => nomatch h
theorem vx_own {args : Array Value} {s : State} {L : List Cond} (h1 : ∀ w ∈ L.filter vx_no, w.before args s = true)
    (hU : (Cond.isRef (.static Bundle.tN "UNASSIGNED_STACK" Bundle.steD)).before args s = true) (hN : (Cond.isRef (.static Bundle.tN "SUPPRESSED_SENTINEL" Bundle.listD)).before args s = true)
    (lU : (Cond.laysStatic Bundle.tN "UNASSIGNED_STACK" Bundle.steD).before args s = true) (lN : (Cond.laysStatic Bundle.tN "SUPPRESSED_SENTINEL" Bundle.listD).before args s = true) : ∀ w ∈ L, w.before args s = true := by
  intro w hw
  by_cases e1 : w = .isRef (.static Bundle.tN "UNASSIGNED_STACK" Bundle.steD)
  · rw [e1]; exact hU
  · by_cases e2 : w = .isRef (.static Bundle.tN "SUPPRESSED_SENTINEL" Bundle.listD)
    · rw [e2]; exact hN
    · by_cases e3 : w = .laysStatic Bundle.tN "UNASSIGNED_STACK" Bundle.steD
      · rw [e3]; exact lU
      · by_cases e4 : w = .laysStatic Bundle.tN "SUPPRESSED_SENTINEL" Bundle.listD
        · rw [e4]; exact lN
        · exact h1 w (List.mem_filter.mpr ⟨hw, by unfold vx_no; rw [decide_eq_true e1, decide_eq_true e2, decide_eq_true e3, decide_eq_true e4]; rfl⟩)
/-- where a static field lies, its class's statics cell in H -/
def vx_L (C n d : String) (A : Nat → Prop) (U : State) (H : Heap) : Prop := ∃ (c : ClassId) (k : Class) (i : Nat) (f : Field) (a : Nat) (cell : Cell), U.vm.findClass C = some c ∧ U.fieldFound? C n d = some (c, k, i, f) ∧ f.isStatic = true ∧ k.statics = some a ∧ H[a]? = some cell ∧ cell.vm.isStatics = true ∧ cell.cls = c ∧ f.slot < cell.slots.size ∧ k.staticTypes[f.slot]? = some f.type ∧ ¬ A a
theorem vx_L.moved {C n d : String} {A : Nat → Prop} {u U : State} {H : Heap} (hvm : u.vm.Alike U.vm) (h : vx_L C n d A u H) : vx_L C n d A U H := by
  obtain ⟨c, k, i, f, a, cell, h1, h2, h3, h4, h5, h6, h7, h8, h9, h10⟩ := h
  obtain ⟨k', hi', he⟩ := State.fieldFound?_setVm hvm h2
  exact ⟨c, k', i, f, a, cell, by rw [hvm.findClass]; exact h1, hi', h3, by rw [he]; exact h4, h5, h6, h7, h8, by rw [he]; exact h9, h10⟩
theorem vx_L.kept {C n d : String} {A : Nat → Prop} {U : State} {H H1 : Heap} (h : vx_L C n d A U H) (hq : ∀ a : Nat, a < H.size → ¬ A a → H1[a]? = H[a]?) : vx_L C n d A U H1 := by
  obtain ⟨c, k, i, f, a, cell, h1, h2, h3, h4, h5, h6, h7, h8, h9, h10⟩ := h
  exact ⟨c, k, i, f, a, cell, h1, h2, h3, h4, by rw [hq a (Array.getElem?_eq_some_iff.mp h5).1 h10]; exact h5, h6, h7, h8, h9, h10⟩
theorem vx_L.narrow {C n d : String} {A B : Nat → Prop} {U : State} {H : Heap} (h : vx_L C n d A U H) (hAB : ∀ q, B q → A q) : vx_L C n d B U H := by
  obtain ⟨c, k, i, f, a, cell, h1, h2, h3, h4, h5, h6, h7, h8, h9, h10⟩ := h
  exact ⟨c, k, i, f, a, cell, h1, h2, h3, h4, h5, h6, h7, h8, h9, fun z => h10 (hAB _ z)⟩
theorem vx_L.word {C n d : String} {A : Nat → Prop} {s : State} {args : Array Value} (h : vx_L C n d A s s.heap) : (Cond.laysStatic C n d).before args s = true := by
  obtain ⟨c, k, i, f, a, cell, h1, h2, h3, h4, h5, h6, h7, h8, h9, -⟩ := h
  show (Cond.laysStatic C n d).holds args s none s [] = true
  exact Cond.laysStatic_of h1 h2 h3 h4 h5 h6 h7 h8 h9
/-- .. and what it holds: null or some reference -/
def vx_Zq (C n d : String) (A : Nat → Prop) (U : State) (H : Heap) : Prop := va_Zq C n d A U H ∧ vx_L C n d A U H
theorem vx_Zq.moved {C n d : String} {A : Nat → Prop} {u U : State} {H : Heap} (hvm : u.vm.Alike U.vm) (h : vx_Zq C n d A u H) : vx_Zq C n d A U H := ⟨va_Zq.moved hvm h.1, vx_L.moved hvm h.2⟩
theorem vx_Zq.kept {C n d : String} {A : Nat → Prop} {U : State} {H H1 : Heap} (h : vx_Zq C n d A U H) (hq : ∀ a : Nat, a < H.size → ¬ A a → H1[a]? = H[a]?) : vx_Zq C n d A U H1 := ⟨va_Zq.kept h.1 hq, vx_L.kept h.2 hq⟩
theorem vx_Zq.narrow {C n d : String} {A B : Nat → Prop} {U : State} {H : Heap} (h : vx_Zq C n d A U H) (hAB : ∀ q, B q → A q) : vx_Zq C n d B U H := ⟨va_Zq.narrow h.1 hAB, vx_L.narrow h.2 hAB⟩
theorem vx_Zqof {args : Array Value} {s : State} {C n d : String} {A : Nat → Prop} (hl : (Cond.laysStatic C n d).before args s = true) (hini : (Cond.initialized C).before args s = true) (h : (Cond.isRef (.static C n d)).before args s = true) (hA : ∀ a : Nat, a < s.heap.size → ¬ A a) : vx_Zq C n d A s s.heap := by
  refine ⟨va_Zqof hl hini h hA, ?_⟩
  obtain ⟨c, k, i, f, a, cell, h1, h2, h3, h4, h5, h6, h7, h8, h9⟩ := Cond.laysStatic_spec hl
  exact ⟨c, k, i, f, a, cell, h1, h2, h3, h4, h5, h6, h7, h8, h9, hA a (Array.getElem?_eq_some_iff.mp h5).1⟩
theorem vx_isRef {C n d : String} {v : Value} {A : Nat → Prop} {s : State} {args : Array Value} (h : va_Z C n d v A s s.heap) (hv : v.isRef = true) : (Cond.isRef (.static C n d)).before args s = true := by
  obtain ⟨cf, kf, fi, f, a, cell, h1, h2, h3, h4, h5, h6, h7, -⟩ := h
  have he : (Term.static C n d).eval args s none [] s = some v := by
    simp [Term.eval, State.fieldNamed?, h1, h2, h4, h5, h6, h7]
  simp only [Cond.before, Cond.holds, Cond.value, he]
  cases v <;> simp_all [Value.isRef]
theorem vx_isRefq {C n d : String} {A : Nat → Prop} {s : State} {args : Array Value} (h : va_Zq C n d A s s.heap) : (Cond.isRef (.static C n d)).before args s = true := by
  rcases h with h | ⟨t, h⟩
  · exact vx_isRef h rfl
  · exact vx_isRef h rfl
/-- the same frame, seen from here: as if the method were called anew in this heap -/
theorem vx_rebase {T : State} (X : Stand p l e R s m args below meth c T locs cells slots) {R' : Room} (hf : R'.frames ≤ R.frames) (hl : R'.locals ≤ R.locals) (hc : cells + R'.cells ≤ R.cells) (hs : slots + R'.slots ≤ R.slots) :
    Stand p l e R' ((T.setVm s.vm).setFrames (.invoking m args :: below)) m args below meth c T [] 0 0 := by
  have htop : (T.setVm s.vm).topJava?.isSome := X.here.top
  have hF : ((T.setVm s.vm).setFrames (.invoking m args :: below)).frames = .invoking m args :: below := State.frames_setFrames _ (State.cur_lt_of_top htop)
  obtain ⟨g₀, hg0⟩ := Option.isSome_iff_exists.mp htop
  obtain ⟨r, hr⟩ := State.topJava?_eq_some.mp hg0
  have hl9 : e.platform.stackLimits (T.setVm s.vm).me = e.platform.stackLimits s.me := X.limits
  have hb9 : (T.setVm s.vm).me.stackBytes = s.me.stackBytes := X.bytes
  refine ⟨X.admits, X.cas, X.clock, hF, ?_, X.hears, X.method, X.code, X.here, X.tail, X.warmed, ?_, ?_, ?_⟩
  · have h := X.room
    have hU : ((T.setVm s.vm).setFrames (.invoking m args :: below)).localsInUse = s.localsInUse := by
      rw [State.localsInUse_invoking hF (meth := meth) (c := c) X.method X.code, State.localsInUse_invoking X.frames X.method X.code]
    simp only [State.hasRoom, Bool.and_eq_true, decide_eq_true_eq] at h ⊢
    obtain ⟨⟨⟨⟨h1, h2, h3, h4, h5, h6⟩, h7⟩, h8⟩, h9⟩ := h
    rw [X.frames, List.length_cons] at h2 h3
    have q1 := X.heapSize
    have q2 := X.used
    simp only [hF, hU, List.length_cons, State.stackLimits_setFrames, State.stackBytes_setFrames, hl9, hb9]
    refine ⟨⟨⟨⟨by omega, by omega, by omega, by omega, by omega, h6⟩, ?_⟩, ?_⟩, X.book⟩
    · show T.heap.size + R'.cells ≤ e.platform.maxCells
      omega
    · show T.slotsUsed + R'.slots ≤ e.platform.maxSlots
      omega
  · rw [State.stackLimits_setFrames]; rfl
  · rw [State.stackBytes_setFrames]; rfl
  · refine ⟨?_, Nat.le_refl _, Nat.le_refl _, ?_, ?_, fun a c9 h9 => ⟨c9, h9, rfl, rfl, fun _ _ => rfl⟩⟩
    · obtain ⟨t, ht, -⟩ := State.frames_cons hr
      show T.setVm s.vm = { ((T.setVm s.vm).setFrames (.invoking m args :: below)).setFrames (T.setVm s.vm).frames with heap := T.heap, slotsUsed := T.slotsUsed }
      rw [State.setFrames_setFrames, State.setFrames_self ht]
      rfl
    · show T.slotsUsed = T.slotsUsed + ((T.heap.toList.drop T.heap.size).map (·.slots.size)).sum
      rw [List.drop_eq_nil_of_le (Nat.le_of_eq Array.length_toList)]
      rfl
    · show ((T.heap.toList.drop T.heap.size).map (·.slots.size)).sum ≤ 0
      rw [List.drop_eq_nil_of_le (Nat.le_of_eq Array.length_toList)]
      exact Nat.le_refl _
/-- 'throw new E()': new; dup; invokespecial; athrow -/
theorem vx_throw0 {cc : ByteArray} {pc : Nat} (hexec : p.tables.exec = Jvm.exec) (hb : c.code = cc) (hl : l.stackTraces = false) {own cls : String} {names : List String} {ik ic mc ms : Nat} {A : Nat → Prop}
    (hown : s.vm.findClass own = some m.cls) (hcls : Bundle.fit cls = true) (hnames : ∀ n ∈ names, Bundle.fit n = true)
    (hk : (Cond.classLink own ik cls).before args s = true) (hini : (Cond.initialized cls).before args s = true) (hat : ∀ w ∈ vx_at0 own ic cls names, w.before args s = true)
    (hgood : ∀ w ∈ Cond.classLink own ik cls :: Cond.initialized cls :: vx_at0 own ic cls names, vx_ot w = true)
    (hU : vx_Zq Bundle.tN "UNASSIGNED_STACK" Bundle.steD A s s.heap) (hN : vx_Zq Bundle.tN "SUPPRESSED_SENTINEL" Bundle.listD A s s.heap) (hS : va_S A s.heap H locs) (hsize : ls.size = c.maxLocals)
    (d0 : decode cc pc = .ok (.new ik, 3)) (d3 : decode cc (pc + 3) = .ok (.dup, 1)) (d4 : decode cc (pc + 4) = .ok (.invokespecial ic, 3)) (d7 : decode cc (pc + 7) = .ok (.athrow, 1))
    (hout : ∀ x ∈ c.exceptionTable.toList, covers x (pc + 7) = false)
    (hRframes : names.length + 3 < R.frames) (hRlocals : (rest.map fun v => v.category).sum + (13 * (names.length + 1) + 42) ≤ R.locals) (hRcells : cells + 1 ≤ R.cells) (hRslots : slots + 6 ≤ R.slots) (hlocks : meth.locks = false)
    (hx : ∀ t : State, s.vm.Alike t.vm → H.size ≤ t.heap.size → (∀ q : Nat, q < H.size → t.heap[q]? = H[q]?) → XC cls s t)
    (hf : ∀ z ∈ locs, free z.base) (hc : cells + 1 ≤ mc) (hs : slots + 6 ≤ ms) :
    W p l e R s m args below meth c H locs cells slots (vx_MQ below Qc XC args s mc ms free) (F0 m pc ls rest) := by
  intro T hT X
  have htr : e.platform.stackTraces = false := (show e.platform.stackTraces = l.stackTraces by rw [X.admits.platform]).trans hl
  have Y := vx_rebase X (R' := { frames := R.frames, locals := R.locals, cells := 1, slots := 6 }) (Nat.le_refl _) (Nat.le_refl _) hRcells hRslots
  obtain ⟨s', hA⟩ : ∃ z, z = (T.setVm s.vm).setFrames (.invoking m args :: below) := ⟨_, rfl⟩
  rw [← hA] at Y
  have hvm : s'.vm = s.vm := by rw [hA]; rfl
  have hhp : s'.heap = H := by rw [hA]; exact hT
  have hW0 : s.WarmedH s'.vm := by rw [hvm]; exact State.WarmedH.refl s
  have hat' : ∀ w ∈ vx_at0 own ic cls names, w.before args s' = true := fun w hw => vx_ot_at hW0 hvm.symm (hgood w (List.mem_cons_of_mem _ (List.mem_cons_of_mem _ hw))) (hat w hw)
  have hk' : (Cond.classLink own ik cls).before args s' = true := vx_ot_at hW0 hvm.symm (hgood _ List.mem_cons_self) hk
  have hini' : (Cond.initialized cls).before args s' = true := vx_ot_at hW0 hvm.symm (hgood _ (List.mem_cons_of_mem _ List.mem_cons_self)) hini
  have hU' : vx_Zq Bundle.tN "UNASSIGNED_STACK" Bundle.steD A s' s'.heap := by rw [hhp]; exact vx_Zq.moved hW0.alike (hU.kept hS.2.1)
  have hN' : vx_Zq Bundle.tN "SUPPRESSED_SENTINEL" Bundle.listD A s' s'.heap := by rw [hhp]; exact vx_Zq.moved hW0.alike (hN.kept hS.2.1)
  have h : ∀ w ∈ Bundle.ownAtoms0 own ic cls names, w.before args s' = true := vx_own hat' (vx_isRefq hU'.1) (vx_isRefq hN'.1) hU'.2.word hN'.2.word
  have hown' : s'.vm.findClass own = some m.cls := by rw [hvm]; exact hown
  have hins : (Cond.instantiable cls 6).before args s' = true := h _ (by simp [Bundle.ownAtoms0])
  obtain ⟨vm₁, cX, kX, hfX, hkX, -, -, X₁, st1⟩ := Y.newCold hexec (own := own) (C := cls) (index := ik) (n := 6) hown' hk' hins hini'
    (g := F0 m pc ls rest) rfl (by rw [hb]; exact d0) (Nat.le_refl _) (Nat.le_refl _)
  generalize hT1 : (T.setVm vm₁).pushCell { cls := cX, slots := kX.instanceTypes.map defaultValue, vm := .none } = T1 at X₁ st1
  have hcat : (Value.ref T.heap.size).category = 1 := rfl
  have hcellA : T1.heap[T.heap.size]? = some (freshCell cX kX) := by rw [← hT1]; exact State.heap_pushCell_size _ _
  have d3' : decode c.code (pc + 3) = .ok (.dup, 1) := by rw [hb]; exact d3
  obtain ⟨U, hsteps, hrun, hend, hW, hsame, ce, hce, hO⟩ := X₁.ctorThrow0 hexec htr (own := own) (cls := cls) (names := names) (ic := ic) hown' hcls hnames h (fun x hx => nomatch hx) hfX hkX hcellA (by rw [hhp, hT]; exact Nat.le_refl _)
    (g := { method := m, pc := pc + 4, locals := ls, stack := .ref T.heap.size :: .ref T.heap.size :: rest, locked := none }) rfl hsize rfl rfl (rest := rest) rfl
    (by rw [hb]; exact d4) (by rw [hb]; exact d7) hout hRframes (by simp only [List.map_cons, List.sum_cons, hcat]; omega) hlocks
  obtain ⟨f1, f2⟩ := vx_frame hsame
  rw [hhp] at f1 f2
  have hWs : s.WarmedH U.vm := State.WarmedH.trans hW0 hW
  have hcl : s.vm.findClass cls = some ce.cls := by
    have h9 := hO.cls
    rw [hvm] at h9
    exact h9
  have hall : s.sameButNew ({ U with vm := s.vm } : State) locs mc ms := by
    subst hA
    obtain ⟨e1, e2⟩ := hsame
    rw [State.setFrames_setFrames] at e1
    have h2 : (T.setVm s.vm).sameButNew ({ U with vm := s.vm } : State) [] (0 + 1) (0 + 6) := ⟨e1, e2⟩
    have h3 := X.same.trans h2
    rw [List.append_nil] at h3
    exact h3.mono hc hs
  refine ⟨U, ?_, .threw T.heap.size, hrun, hend, Or.inr ⟨T.heap.size, rfl, cls, ce, locs, hx U hWs.alike f1 (fun q hq => f2 q hq (fun z hz => nomatch hz)), hce, hO.vm, hcl, hWs, hall, hf⟩⟩
  refine st1 _ ?_
  show Steps p.tables e below (T1.setTop { method := m, pc := pc + 3, locals := ls, stack := .ref T.heap.size :: rest, locked := none }) _
  jvm_step X₁.here [X₁.here.top, hexec, d3', Value.category]
  exact hsteps
/-- 'throw new E("text")': new; dup; ldc; invokespecial; athrow -/
theorem vx_throwS {cc : ByteArray} {pc : Nat} (hexec : p.tables.exec = Jvm.exec) (hb : c.code = cc) (hl : l.stackTraces = false) {own cls text : String} {names : List String} {ik is ic mc ms sa : Nat} {A : Nat → Prop}
    (hown : s.vm.findClass own = some m.cls) (hcls : Bundle.fit cls = true) (hnames : ∀ n ∈ names, Bundle.fit n = true)
    (hk : (Cond.classLink own ik cls).before args s = true) (hini : (Cond.initialized cls).before args s = true) (hstr : vk_R own is text sa s) (hat : ∀ w ∈ vx_atS own ic cls names, w.before args s = true)
    (hgood : ∀ w ∈ Cond.classLink own ik cls :: Cond.initialized cls :: vx_atS own ic cls names, vx_ot w = true)
    (hU : vx_Zq Bundle.tN "UNASSIGNED_STACK" Bundle.steD A s s.heap) (hN : vx_Zq Bundle.tN "SUPPRESSED_SENTINEL" Bundle.listD A s s.heap) (hS : va_S A s.heap H locs) (hsize : ls.size = c.maxLocals)
    (d0 : decode cc pc = .ok (.new ik, 3)) (d3 : decode cc (pc + 3) = .ok (.dup, 1)) (d4 : decode cc (pc + 4) = .ok (.ldc is, 2)) (d6 : decode cc (pc + 6) = .ok (.invokespecial ic, 3)) (d9 : decode cc (pc + 9) = .ok (.athrow, 1))
    (hout : ∀ x ∈ c.exceptionTable.toList, covers x (pc + 9) = false)
    (hRframes : names.length + 3 < R.frames) (hRlocals : (rest.map fun v => v.category).sum + (13 * (names.length + 1) + 43) ≤ R.locals) (hRcells : cells + 1 ≤ R.cells) (hRslots : slots + 6 ≤ R.slots) (hlocks : meth.locks = false)
    (hx : ∀ t : State, s.vm.Alike t.vm → H.size ≤ t.heap.size → (∀ q : Nat, q < H.size → t.heap[q]? = H[q]?) → XC cls s t)
    (hf : ∀ z ∈ locs, free z.base) (hc : cells + 1 ≤ mc) (hs : slots + 6 ≤ ms) :
    W p l e R s m args below meth c H locs cells slots (vx_MQ below Qc XC args s mc ms free) (F0 m pc ls rest) := by
  intro T hT X
  have htr : e.platform.stackTraces = false := (show e.platform.stackTraces = l.stackTraces by rw [X.admits.platform]).trans hl
  have Y := vx_rebase X (R' := { frames := R.frames, locals := R.locals, cells := 1, slots := 6 }) (Nat.le_refl _) (Nat.le_refl _) hRcells hRslots
  obtain ⟨s', hA⟩ : ∃ z, z = (T.setVm s.vm).setFrames (.invoking m args :: below) := ⟨_, rfl⟩
  rw [← hA] at Y
  have hvm : s'.vm = s.vm := by rw [hA]; rfl
  have hhp : s'.heap = H := by rw [hA]; exact hT
  have hW0 : s.WarmedH s'.vm := by rw [hvm]; exact State.WarmedH.refl s
  have hat' : ∀ w ∈ vx_atS own ic cls names, w.before args s' = true := fun w hw => vx_ot_at hW0 hvm.symm (hgood w (List.mem_cons_of_mem _ (List.mem_cons_of_mem _ hw))) (hat w hw)
  have hk' : (Cond.classLink own ik cls).before args s' = true := vx_ot_at hW0 hvm.symm (hgood _ List.mem_cons_self) hk
  have hini' : (Cond.initialized cls).before args s' = true := vx_ot_at hW0 hvm.symm (hgood _ (List.mem_cons_of_mem _ List.mem_cons_self)) hini
  have hU' : vx_Zq Bundle.tN "UNASSIGNED_STACK" Bundle.steD A s' s'.heap := by rw [hhp]; exact vx_Zq.moved hW0.alike (hU.kept hS.2.1)
  have hN' : vx_Zq Bundle.tN "SUPPRESSED_SENTINEL" Bundle.listD A s' s'.heap := by rw [hhp]; exact vx_Zq.moved hW0.alike (hN.kept hS.2.1)
  have h : ∀ w ∈ Bundle.ownAtoms own ic cls names, w.before args s' = true := vx_own hat' (vx_isRefq hU'.1) (vx_isRefq hN'.1) hU'.2.word hN'.2.word
  have hown' : s'.vm.findClass own = some m.cls := by rw [hvm]; exact hown
  have hins : (Cond.instantiable cls 6).before args s' = true := h _ (by simp [Bundle.ownAtoms])
  obtain ⟨vm₁, cX, kX, hfX, hkX, -, -, X₁, st1⟩ := Y.newCold hexec (own := own) (C := cls) (index := ik) (n := 6) hown' hk' hins hini'
    (g := F0 m pc ls rest) rfl (by rw [hb]; exact d0) (Nat.le_refl _) (Nat.le_refl _)
  generalize hT1 : (T.setVm vm₁).pushCell { cls := cX, slots := kX.instanceTypes.map defaultValue, vm := .none } = T1 at X₁ st1
  have hcat : (Value.ref T.heap.size).category = 1 := rfl
  have hcellA : T1.heap[T.heap.size]? = some (freshCell cX kX) := by rw [← hT1]; exact State.heap_pushCell_size _ _
  have d3' : decode c.code (pc + 3) = .ok (.dup, 1) := by rw [hb]; exact d3
  have d4' : decode c.code (pc + 4) = .ok (.ldc is, 2) := by rw [hb]; exact d4
  have hstr' : vk_R own is text sa s' := vk_R.warm hW0 hstr
  obtain ⟨U, hsteps, hrun, hend, hW, hsame, ce, hce, hO⟩ := X₁.ctorThrowS hexec htr (own := own) (cls := cls) (names := names) (ic := ic) hown' hcls hnames h (fun x hx => nomatch hx) hfX hkX hcellA (by rw [hhp, hT]; exact Nat.le_refl _) (msg := .ref sa) rfl
    (g := { method := m, pc := pc + 6, locals := ls, stack := .ref sa :: .ref T.heap.size :: .ref T.heap.size :: rest, locked := none }) rfl hsize rfl rfl (rest := rest) rfl
    (by rw [hb]; exact d6) (by rw [hb]; exact d9) hout hRframes (by simp only [List.map_cons, List.sum_cons, hcat]; omega) hlocks
  obtain ⟨f1, f2⟩ := vx_frame hsame
  rw [hhp] at f1 f2
  have hWs : s.WarmedH U.vm := State.WarmedH.trans hW0 hW
  have hcl : s.vm.findClass cls = some ce.cls := by
    have h9 := hO.cls
    rw [hvm] at h9
    exact h9
  have hall : s.sameButNew ({ U with vm := s.vm } : State) locs mc ms := by
    subst hA
    obtain ⟨e1, e2⟩ := hsame
    rw [State.setFrames_setFrames] at e1
    have h2 : (T.setVm s.vm).sameButNew ({ U with vm := s.vm } : State) [] (0 + 1) (0 + 6) := ⟨e1, e2⟩
    have h3 := X.same.trans h2
    rw [List.append_nil] at h3
    exact h3.mono hc hs
  refine ⟨U, ?_, .threw T.heap.size, hrun, hend, Or.inr ⟨T.heap.size, rfl, cls, ce, locs, hx U hWs.alike f1 (fun q hq => f2 q hq (fun z hz => nomatch hz)), hce, hO.vm, hcl, hWs, hall, hf⟩⟩
  refine st1 _ ?_
  show Steps p.tables e below (T1.setTop { method := m, pc := pc + 3, locals := ls, stack := .ref T.heap.size :: rest, locked := none }) _
  jvm_step X₁.here [X₁.here.top, hexec, d3', Value.category]
  exact X₁.ldcString hexec (own := own) (text := text) (index := is) (a := sa) hown' hstr'.1 hstr'.2
    (g := { method := m, pc := pc + 4, locals := ls, stack := .ref T.heap.size :: .ref T.heap.size :: rest, locked := none }) rfl d4' _ hsteps
/-- 'throw new E("text")', the text by a wide index -/
theorem vx_throwSW {cc : ByteArray} {pc : Nat} (hexec : p.tables.exec = Jvm.exec) (hb : c.code = cc) (hl : l.stackTraces = false) {own cls text : String} {names : List String} {ik is ic mc ms sa : Nat} {A : Nat → Prop}
    (hown : s.vm.findClass own = some m.cls) (hcls : Bundle.fit cls = true) (hnames : ∀ n ∈ names, Bundle.fit n = true)
    (hk : (Cond.classLink own ik cls).before args s = true) (hini : (Cond.initialized cls).before args s = true) (hstr : vk_R own is text sa s) (hat : ∀ w ∈ vx_atS own ic cls names, w.before args s = true)
    (hgood : ∀ w ∈ Cond.classLink own ik cls :: Cond.initialized cls :: vx_atS own ic cls names, vx_ot w = true)
    (hU : vx_Zq Bundle.tN "UNASSIGNED_STACK" Bundle.steD A s s.heap) (hN : vx_Zq Bundle.tN "SUPPRESSED_SENTINEL" Bundle.listD A s s.heap) (hS : va_S A s.heap H locs) (hsize : ls.size = c.maxLocals)
    (d0 : decode cc pc = .ok (.new ik, 3)) (d3 : decode cc (pc + 3) = .ok (.dup, 1)) (d4 : decode cc (pc + 4) = .ok (.ldc_w is, 3)) (d7 : decode cc (pc + 7) = .ok (.invokespecial ic, 3)) (d10 : decode cc (pc + 10) = .ok (.athrow, 1))
    (hout : ∀ x ∈ c.exceptionTable.toList, covers x (pc + 10) = false)
    (hRframes : names.length + 3 < R.frames) (hRlocals : (rest.map fun v => v.category).sum + (13 * (names.length + 1) + 43) ≤ R.locals) (hRcells : cells + 1 ≤ R.cells) (hRslots : slots + 6 ≤ R.slots) (hlocks : meth.locks = false)
    (hx : ∀ t : State, s.vm.Alike t.vm → H.size ≤ t.heap.size → (∀ q : Nat, q < H.size → t.heap[q]? = H[q]?) → XC cls s t)
    (hf : ∀ z ∈ locs, free z.base) (hc : cells + 1 ≤ mc) (hs : slots + 6 ≤ ms) :
    W p l e R s m args below meth c H locs cells slots (vx_MQ below Qc XC args s mc ms free) (F0 m pc ls rest) := by
  intro T hT X
  have htr : e.platform.stackTraces = false := (show e.platform.stackTraces = l.stackTraces by rw [X.admits.platform]).trans hl
  have Y := vx_rebase X (R' := { frames := R.frames, locals := R.locals, cells := 1, slots := 6 }) (Nat.le_refl _) (Nat.le_refl _) hRcells hRslots
  obtain ⟨s', hA⟩ : ∃ z, z = (T.setVm s.vm).setFrames (.invoking m args :: below) := ⟨_, rfl⟩
  rw [← hA] at Y
  have hvm : s'.vm = s.vm := by rw [hA]; rfl
  have hhp : s'.heap = H := by rw [hA]; exact hT
  have hW0 : s.WarmedH s'.vm := by rw [hvm]; exact State.WarmedH.refl s
  have hat' : ∀ w ∈ vx_atS own ic cls names, w.before args s' = true := fun w hw => vx_ot_at hW0 hvm.symm (hgood w (List.mem_cons_of_mem _ (List.mem_cons_of_mem _ hw))) (hat w hw)
  have hk' : (Cond.classLink own ik cls).before args s' = true := vx_ot_at hW0 hvm.symm (hgood _ List.mem_cons_self) hk
  have hini' : (Cond.initialized cls).before args s' = true := vx_ot_at hW0 hvm.symm (hgood _ (List.mem_cons_of_mem _ List.mem_cons_self)) hini
  have hU' : vx_Zq Bundle.tN "UNASSIGNED_STACK" Bundle.steD A s' s'.heap := by rw [hhp]; exact vx_Zq.moved hW0.alike (hU.kept hS.2.1)
  have hN' : vx_Zq Bundle.tN "SUPPRESSED_SENTINEL" Bundle.listD A s' s'.heap := by rw [hhp]; exact vx_Zq.moved hW0.alike (hN.kept hS.2.1)
  have h : ∀ w ∈ Bundle.ownAtoms own ic cls names, w.before args s' = true := vx_own hat' (vx_isRefq hU'.1) (vx_isRefq hN'.1) hU'.2.word hN'.2.word
  have hown' : s'.vm.findClass own = some m.cls := by rw [hvm]; exact hown
  have hins : (Cond.instantiable cls 6).before args s' = true := h _ (by simp [Bundle.ownAtoms])
  obtain ⟨vm₁, cX, kX, hfX, hkX, -, -, X₁, st1⟩ := Y.newCold hexec (own := own) (C := cls) (index := ik) (n := 6) hown' hk' hins hini'
    (g := F0 m pc ls rest) rfl (by rw [hb]; exact d0) (Nat.le_refl _) (Nat.le_refl _)
  generalize hT1 : (T.setVm vm₁).pushCell { cls := cX, slots := kX.instanceTypes.map defaultValue, vm := .none } = T1 at X₁ st1
  have hcat : (Value.ref T.heap.size).category = 1 := rfl
  have hcellA : T1.heap[T.heap.size]? = some (freshCell cX kX) := by rw [← hT1]; exact State.heap_pushCell_size _ _
  have d3' : decode c.code (pc + 3) = .ok (.dup, 1) := by rw [hb]; exact d3
  have d4' : decode c.code (pc + 4) = .ok (.ldc_w is, 3) := by rw [hb]; exact d4
  have hstr' : vk_R own is text sa s' := vk_R.warm hW0 hstr
  obtain ⟨U, hsteps, hrun, hend, hW, hsame, ce, hce, hO⟩ := X₁.ctorThrowS hexec htr (own := own) (cls := cls) (names := names) (ic := ic) hown' hcls hnames h (fun x hx => nomatch hx) hfX hkX hcellA (by rw [hhp, hT]; exact Nat.le_refl _) (msg := .ref sa) rfl
    (g := { method := m, pc := pc + 7, locals := ls, stack := .ref sa :: .ref T.heap.size :: .ref T.heap.size :: rest, locked := none }) rfl hsize rfl rfl (rest := rest) rfl
    (by rw [hb]; exact d7) (by rw [hb]; exact d10) hout hRframes (by simp only [List.map_cons, List.sum_cons, hcat]; omega) hlocks
  obtain ⟨f1, f2⟩ := vx_frame hsame
  rw [hhp] at f1 f2
  have hWs : s.WarmedH U.vm := State.WarmedH.trans hW0 hW
  have hcl : s.vm.findClass cls = some ce.cls := by
    have h9 := hO.cls
    rw [hvm] at h9
    exact h9
  have hall : s.sameButNew ({ U with vm := s.vm } : State) locs mc ms := by
    subst hA
    obtain ⟨e1, e2⟩ := hsame
    rw [State.setFrames_setFrames] at e1
    have h2 : (T.setVm s.vm).sameButNew ({ U with vm := s.vm } : State) [] (0 + 1) (0 + 6) := ⟨e1, e2⟩
    have h3 := X.same.trans h2
    rw [List.append_nil] at h3
    exact h3.mono hc hs
  refine ⟨U, ?_, .threw T.heap.size, hrun, hend, Or.inr ⟨T.heap.size, rfl, cls, ce, locs, hx U hWs.alike f1 (fun q hq => f2 q hq (fun z hz => nomatch hz)), hce, hO.vm, hcl, hWs, hall, hf⟩⟩
  refine st1 _ ?_
  show Steps p.tables e below (T1.setTop { method := m, pc := pc + 3, locals := ls, stack := .ref T.heap.size :: rest, locked := none }) _
  jvm_step X₁.here [X₁.here.top, hexec, d3', Value.category]
  exact X₁.ldcStringW hexec (own := own) (text := text) (index := is) (a := sa) hown' hstr'.1 hstr'.2
    (g := { method := m, pc := pc + 4, locals := ls, stack := .ref T.heap.size :: .ref T.heap.size :: rest, locked := none }) rfl d4' _ hsteps
end Ends
section Bodies
variable {l : Launch}
theorem vx_ofW {y : MethodName} {ws ws' : List Cond} {rm : Room} {Pc : Array Value → State → Prop} {Qc : Array Value → State → Outcome → State → Prop} {XC : String → State → State → Prop} {mc ms : Nat} {free : Addr → Prop} {cc : ByteArray} {maxL : Nat} {ret : Option FieldType}
    (hy : plainName y.cls = true) (hw : ws = Cond.code y cc maxL ret :: ws')
    (body : ∀ p e s m args below meth c s₁, BodyLoose p l y (headSpec ws rm) cc maxL ret e s m args below meth c s₁ → c.maxLocals = maxL → (∀ x ∈ c.exceptionTable.toList, False) → Pc args s →
      W p l e (headSpec ws rm).room s m args below meth c s.heap [] 0 0 (vx_MQ below Qc XC args s mc ms free) (entryFrame m args maxL)) : vx_Met l y ws rm Pc Qc XC mc ms free := by
  refine MetFree.of_bodyS (code := cc) (maxLocals := maxL) (ret := ret) hy ?_ ?_
  · intro args s m h hn
    obtain ⟨meth, c, h1, h2, h3, h4, h5, h6, -, -⟩ := Cond.code_spec hn (atoms_spec (ws := ws) h _ (by rw [hw]; exact List.mem_cons_self))
    exact ⟨meth, c, h1, h2, h3, h4, h5, h6⟩
  · intro p e s m args below meth c s₁ B hml hP _
    have hh0 : s₁.heap = s.heap := by rw [B.state]; rfl
    have ht : ∀ x ∈ c.exceptionTable.toList, False := by
      obtain ⟨meth9, c9, h1, h2, -, -, -, -, h7, -⟩ := Cond.code_spec B.named (atoms_spec (ws := ws) B.pre _ (by rw [hw]; exact List.mem_cons_self))
      cases Option.some.inj (h1.symm.trans B.method)
      cases Option.some.inj (h2.symm.trans (Stand.of_body B).code)
      intro x hx
      rw [Array.isEmpty_iff.mp h7] at hx
      cases hx
    obtain ⟨t, a1, o, b1, b2, b3⟩ := body p e s m args below meth c s₁ B hml ht hP s₁ hh0 (Stand.of_body B)
    exact ⟨t, o, a1, b1, b2, b3⟩
/-- the table of a body with handlers -/
theorem vx_table {p : Program} {x y : MethodName} {S : Spec} {cc bytes : ByteArray} {maxL maxL' : Nat} {ret ret' : Option FieldType} {e : Env} {s s₁ : State} {m : MethodId} {args : Array Value} {below : List Frame} {meth : Method} {c : Code} {hh : List (Nat × Nat × Nat × Nat)}
    (B : BodyLoose p l y S cc maxL ret e s m args below meth c s₁) (h : (Cond.codeWith y bytes maxL' ret' hh).before args s = true) : c.exceptionTable.toList = tableOf hh := by
  obtain ⟨m9, meth9, c9, hn9, h1, h2, -, -, h6, -⟩ := Cond.codeWith_spec h
  cases Option.some.inj (hn9.symm.trans B.named)
  cases Option.some.inj (h1.symm.trans B.method)
  cases Option.some.inj (h2.symm.trans (Stand.of_body B).code)
  rw [← h6, table_eq]
end Bodies
end VXA
/-! ===== END ===== -/
/-! ===== BEGIN a static call of a method with an exception table ===== -/
section VXS
variable {p : Program} {l : Launch} {e : Env} {R : Room} {s : State} {m : MethodId} {args : Array Value} {below : List Frame} {meth : Method} {c : Code} {T : State} {H : Heap} {locs : List Loc} {cells slots : Nat}
abbrev vx_CSW (R : Room) (s : State) (args : Array Value) (own : String) (index : Nat) (y : MethodName) (bytes : ByteArray) (maxL : Nat) (ret : Option FieldType) (hh : List (Nat × Nat × Nat × Nat)) (ws : List Cond) (rm : Room) (mc ms n : Nat) : Prop :=
  (rm.cells = mc ∧ rm.slots = ms ∧ rm.frames + 1 ≤ R.frames ∧ 8 + (maxL + 11) + rm.locals ≤ R.locals ∧ (∀ w ∈ ws, ∀ (a' : Array Value) (U : State), s.WarmedH U.vm → w.before a' U = true) ∧ Cond.codeWith y bytes maxL ret hh ∈ ws) ∧
  (Cond.codeWith y bytes maxL ret hh).before args s = true ∧ (Cond.initialized y.cls).before args s = true ∧ (y.cls ≠ "java/lang/invoke/MethodHandle" ∧ y.cls ≠ "java/lang/invoke/VarHandle") ∧
  (∀ sig, parseMethodDescriptor y.desc = some sig → n = sig.parameters.length) ∧ (Cond.methodLink own index y).before args s = true ∧ (Cond.static y).before args s = true
theorem vx_cwSW {own : String} {index maxL mc ms : Nat} {y : MethodName} {bytes : ByteArray} {ret : Option FieldType} {hh : List (Nat × Nat × Nat × Nat)} {Ts ws ws' : List Cond} {rm : Room} (n : Nat) (ht : ∀ w ∈ Ts, w.before args s = true) (hT : GoodIn Ts (va_wsS own index y ws)) (hw : ws = Cond.codeWith y bytes maxL ret hh :: ws') (hrc : rm.cells = mc) (hrs : rm.slots = ms)
    (hd : y.cls ≠ "java/lang/invoke/MethodHandle" ∧ y.cls ≠ "java/lang/invoke/VarHandle" ∧ (parseMethodDescriptor y.desc).map (fun d => d.parameters.length) = some n) (hR : rm.frames + 1 ≤ R.frames ∧ 8 + (maxL + 11) + rm.locals ≤ R.locals) :
    vx_CSW R s args own index y bytes maxL ret hh ws rm mc ms n := by
  have ok : ∀ w ∈ va_wsS own index y ws, w.before args s = true := fun w h => ht w (hT w h).1
  have hG : GoodIn Ts ws := fun w h => hT w (by unfold va_wsS; exact List.mem_append_right _ h)
  have hc : Cond.codeWith y bytes maxL ret hh ∈ ws := by rw [hw]; exact List.mem_cons_self
  refine ⟨⟨hrc, hrs, hR.1, hR.2, pay_in ht hG, hc⟩, ht _ (hG _ hc).1, ok _ (by simp [va_wsS]), ⟨hd.1, hd.2.1⟩, fun sig h => ?_, ok _ (by simp [va_wsS]), ok _ (by simp [va_wsS])⟩
  have h2 := hd.2.2
  rw [h] at h2
  exact (Option.some.inj h2).symm
theorem vx_callSW (X : Stand p l e R s m args below meth c T locs cells slots) (hexec : p.tables.exec = Jvm.exec) {own : String} {index : Nat} {y : MethodName} {bytes : ByteArray} {maxL : Nat} {ret : Option FieldType} {hh : List (Nat × Nat × Nat × Nat)}
    (hown : s.vm.findClass own = some m.cls) (hlink : (Cond.methodLink own index y).before args s = true) (hstat : (Cond.static y).before args s = true) (hinit : (Cond.initialized y.cls).before args s = true)
    (hcode : (Cond.codeWith y bytes maxL ret hh).before args s = true) (hy : y.cls ≠ "java/lang/invoke/MethodHandle" ∧ y.cls ≠ "java/lang/invoke/VarHandle")
    {W9 : Nat} {Pre : Pt → Array Value → Prop} {Post : Pt → Array Value → Option Value → Pt → Prop} (hK : Back l R p e below s args y 3 W9 Pre Post)
    {g : JFrame} (hg : g.method = m) (hsize : g.locals.size = c.maxLocals) {argsL rest : List Value} (hlen : ∀ sig, parseMethodDescriptor y.desc = some sig → argsL.length = sig.parameters.length)
    (hstack : g.stack = argsL.reverse ++ rest) (hW : 2 * g.monitorRoom + (rest.map fun v => v.category).sum ≤ W9) (hdg : decode c.code g.pc = .ok (.invokestatic index, 3))
    (hpre : ∀ vm₁, s.WarmedH vm₁ → Pre ⟨T.setVm vm₁, locs, cells, slots⟩ argsL.toArray) :
    ∃ (v : Option Value) (vm₁ : Vm) (B : Pt), s.WarmedH vm₁ ∧ Stand p l e R s m args below meth c B.U B.locs B.cells B.slots ∧ Post ⟨T.setVm vm₁, locs, cells, slots⟩ argsL.toArray v B ∧
      ∀ target, Steps p.tables e below (B.U.setTop { g with pc := g.pc + 3, stack := v.toList ++ rest }) target → Steps p.tables e below (T.setTop g) target := by
  obtain ⟨mk, methM, cM, hnamed, hmethM, -, -, -, -, -, -, hsigM⟩ := Cond.codeWith_spec hcode
  have hstatic : methM.isStatic = true := Cond.static_spec hnamed hmethM hstat
  obtain ⟨kP, hkP, -⟩ := className_of_methodNamed hnamed
  have hinitP : kP.init = .initialized := Cond.initialized_spec (findClass_of_methodNamed hnamed) hkP hinit
  obtain ⟨vm₁, X₁, hstep₁⟩ := X.invokestatic hexec hown hlink hnamed hmethM hstatic hkP hinitP hy (g := g) hg (argsL := argsL) (rest := rest) (hlen _ hsigM) hstack hdg
  obtain ⟨v, B, X', hpost, hsteps⟩ := hK m meth c ⟨T.setVm vm₁, locs, cells, slots⟩ { g with stack := rest } (.invokestatic index) mk argsL.toArray X₁ hg hsize hdg hW (X₁.named hnamed) (hpre vm₁ X₁.warmed)
  exact ⟨v, vm₁, B, X₁.warmed, X', hpost, fun target h => hstep₁ _ fun acts => by rw [doInvoke_state]; exact hsteps.trans h⟩
theorem vx_runSW {y : MethodName} {bytes cc : ByteArray} {maxL nL mc ms n index : Nat} {ret : Option FieldType} {hh : List (Nat × Nat × Nat × Nat)} {ws : List Cond} {rm : Room} {Pc : Array Value → State → Prop} {Qc : Array Value → State → Outcome → State → Prop} {free : Addr → Prop} {Ts : List Cond} {own : String} {As rest : List Value} {g : JFrame}
    (S : CallFix p m c cc nL s args Ts own) (hM : Met l y ws rm Pc Qc mc ms free) (cw : vx_CSW R s args own index y bytes maxL ret hh ws rm mc ms n) (hp : PreS s H Pc As)
    (hg : g.method = m) (hn : As.length = n) (hsize : g.locals.size = nL) (hstack : g.stack = As.reverse ++ rest) (hW : 2 * g.monitorRoom + (rest.map fun v => v.category).sum ≤ 8) (hdg : decode cc g.pc = .ok (.invokestatic index, 3)) (hf : cells + mc ≤ R.cells ∧ slots + ms ≤ R.slots) :
    va_Run p l e R s m args below meth c H locs cells slots mc ms g rest (Qc As.toArray) (free) := by
  obtain ⟨⟨hrc, hrs, hfr, hlo, hws, hcw⟩, hcode, hini, hy, hlen, hl, hstt⟩ := cw
  have hK : Back l R p e below s args y 3 8 (PreOf R mc ms Pc) (PostOf Qc mc ms free) := va_backW (hh := hh) (bytes := bytes) (maxL := maxL) (ret := ret) hM hp.1 hrc hrs hfr hlo hws hcw (fun a' U hW => word_at hW (Or.inl (by first | rfl | simp [Cond.onTables, Cond.keeps, Cond.steady])) hini)
  obtain ⟨hx, hb, hml, ho, -⟩ := S
  intro T hT X
  obtain ⟨v, vm₁, ⟨U', l2, c2, s2⟩, hW₁, X', ⟨g', mk, t, L, e1, e2, hq, h1, hL, h2, h3⟩, st⟩ := vx_callSW X hx (hh := hh) (bytes := bytes) (maxL := maxL) (ret := ret) ho hl hstt hini hcode hy hK hg (hsize.trans hml.symm) (argsL := As) (rest := rest) (fun sig h => hn.trans (hlen sig h)) hstack hW (by rw [hb]; exact hdg)
    (fun vm₁ hW₁ => ⟨hf.1, hf.2, hp.2 (T.setVm vm₁) hT hW₁⟩)
  dsimp only [Pt.U, Pt.locs, Pt.cells, Pt.slots] at X' e1 e2 h1 h2 h3 st
  subst h1; subst h2; subst h3
  exact ⟨v, (T.setVm vm₁).calling g' mk As.toArray, t, U', L, hT, X', hL, e1, e2, hq, st⟩
/-- not caught here, past rows that name other classes: it goes on to the caller -/
theorem vx_outP {p : Program} {l : Launch} {e : Env} {R : Room} {s : State} {m : MethodId} {args : Array Value} {below : List Frame} {meth : Method} {c : Code} {H : Heap} {locs : List Loc} {cells slots : Nat} {free : Addr → Prop} {ls : Array Slot} {rest : List Value} {Qc : Array Value → State → Outcome → State → Prop} {XC : String → State → State → Prop}
    {pc : Nat} {own E : String} {ce : Cell} {q : Addr} {mc ms : Nat} (hown : s.vm.findClass own = some m.cls) (hlocks : meth.locks = false)
    (hpass : ∀ z ∈ c.exceptionTable.toList, covers z pc = false ∨ (z.catchType ≠ 0 ∧ ∃ nm : String, (Cond.classLink own z.catchType nm).before args s = true ∧ va_Nc E nm s)) (hcell : H[q]? = some ce) (hv : ce.vm = .none) (hcl : s.vm.findClass E = some ce.cls)
    (hx : ∀ t : State, t.heap = H → s.vm.Alike t.vm → XC E s t) (hf : ∀ z ∈ locs, free z.base) (hc : cells ≤ mc) (hs : slots ≤ ms) :
    vx_W p l e R s m args below meth c H locs cells slots (vx_MQ below Qc XC args s mc ms free) (F0 m pc ls rest) q := by
  intro T hT X
  have hpl : e.platform.magicAccessors = ({} : Platform).magicAccessors := by rw [X.admits.platform]
  obtain ⟨vm', hW', X', st⟩ := X.outThrough hlocks q (g := F0 m pc ls rest) rfl rfl rfl (cell := ce) (by rw [hT]; exact hcell) (by rw [hv]; rfl)
    (by obtain ⟨k9, h9, -⟩ := Vm.findClass_spec hcl; exact ⟨k9, h9⟩) (fun z hz => by
      rcases hpass z hz with h | ⟨hz0, nm, hl1, hn1⟩
      · exact Or.inl h
      · obtain ⟨c6, hc6, hcl6⟩ := Cond.classLink_spec hown hl1 e.platform hpl
        obtain ⟨a8, b8, h1, h2, h3⟩ := hn1
        cases Option.some.inj (h1.symm.trans hcl)
        cases Option.some.inj (h2.symm.trans hc6)
        exact Or.inr ⟨hz0, _, hcl6, h3⟩)
  obtain ⟨g₀, hfr⟩ := X'.frames_eq
  have hcell9 : ((T.setVm vm').setFrames (.throwing q :: below)).heap[q]? = some ce := by
    show T.heap[q]? = some ce
    rw [hT]; exact hcell
  have hend : Ended ((T.setVm vm').setFrames (.throwing q :: below)) below (.threw q) := State.frames_setFrames _ (State.cur_lt_of_frames hfr)
  refine ⟨(T.setVm vm').setFrames (.throwing q :: below), ?_, .threw q, X'.here.running, hend, Or.inr ⟨q, rfl, E, ce, locs, hx _ hT (X'.ends _).1.alike, hcell9, hv, hcl, (X'.ends _).1, (X'.ends _).2.mono hc hs, hf⟩⟩
  rw [X.pushThrowing_eq]
  exact st
/-- a thing of a world lies in the heap -/
theorem vx_lt {D : va_G} {cl : List vw_C} {ws : va_W} {H1 : Heap} (h : va_P D cl ws H1) {k : Nat} {q : Nat × va_E} (hk : ws[k]? = some q) : q.1 < H1.size := (h k q hk).lt
end VXS
/-! ===== END ===== -/
/-! ===== BEGIN methods with a table of their own: called by a name, returning or throwing ===== -/
section VXH
/-! vx_backW, vx_callVX, vx_callSX, vx_callVW, vx_runVW, vx_runVX, vx_runSX, vx_ofWH follow the same proofs as their sisters above (Free/Laws.lean, Shelf42/LK1.lean); vx_outP calls Shelf42/NT130.lean (outThrough). -/
section
variable {l : Launch} {R : Room} {p : Program} {e : Env} {below : List Frame} {s : State} {sargs : Array Value} {y : MethodName} {len W9 : Nat}
theorem vx_backW {ws : List Cond} {rm : Room} {Pc : Array Value → State → Prop} {Qc : Array Value → State → Outcome → State → Prop} {XC : String → State → State → Prop} {mc ms : Nat} {free : Addr → Prop} {bytes : ByteArray} {maxL : Nat} {ret : Option FieldType} {hh : List (Nat × Nat × Nat × Nat)}
    (hM : vx_Met l y ws rm Pc Qc XC mc ms free) (hblind : FrameBlind Pc) (hrc : rm.cells = mc) (hrs : rm.slots = ms)
    (hframes : rm.frames + 1 ≤ R.frames) (hlocals : W9 + (maxL + 11) + rm.locals ≤ R.locals)
    (hws : ∀ w ∈ ws, ∀ a' U, s.WarmedH U.vm → w.before a' U = true) (hcode : Cond.codeWith y bytes maxL ret hh ∈ ws) (hinit : ∀ a' U, s.WarmedH U.vm → (Cond.initialized y.cls).before a' U = true) :
    vx_Back l R p e below s sargs y len W9 (PreOf R mc ms Pc) (PostOf Qc mc ms free) (vx_Post XC mc ms free) := by
  intro m meth c A g ig mk a X hg hsize hdg hW hn hp
  have h1 : (headSpec ws rm).pre.before a A.U = true := atoms_intro fun w hw => hws w hw _ _ X.warmed
  have h2 : (Cond.codeWith y bytes maxL ret hh).before a A.U = true := hws _ hcode _ _ X.warmed
  have h3 : (Cond.initialized y.cls).before a A.U = true := hinit _ _ X.warmed
  have h4 : A.cells + (headSpec ws rm).room.cells ≤ R.cells := by rw [show (headSpec ws rm).room.cells = mc from hrc]; exact hp.1
  have h5 : A.slots + (headSpec ws rm).room.slots ≤ R.slots := by rw [show (headSpec ws rm).room.slots = ms from hrs]; exact hp.2.1
  have hPc : Pc a (A.U.calling g mk a) := hblind _ _ _ _ hp.2.2
  obtain ⟨U, Ls, c0, s0⟩ := A
  dsimp only [Pt.U, Pt.locs, Pt.cells, Pt.slots] at h1 h2 h3 h4 h5 X hn hPc ⊢
  obtain ⟨m9, methY, cY, hn9, hmY, hcY, -, hlY, -⟩ := Cond.codeWith_spec h2
  cases Option.some.inj (hn9.symm.trans hn)
  obtain ⟨kY, hkY, -⟩ := className_of_methodNamed hn
  have hinitY : kY.init = .initialized := Cond.initialized_spec (findClass_of_methodNamed hn) hkY h3
  have h : At U g.method c below := by rw [hg]; exact X.here
  have hlocals9 : W9 + (maxL + 11) + (headSpec ws rm).room.locals ≤ R.locals := hlocals
  have happ : (headSpec ws rm).appliesLoose y e.platform (U.calling g mk a) = true :=
    Spec.appliesLoose_calling (g := g) h hdg hn hkY hinitY
      (X.room_calling (g := g) (R' := (headSpec ws rm).room) hsize hmY hcY hframes (by rw [hlY]; omega) h4 h5) h1
  obtain ⟨mid, hmid⟩ := h.above
  have hfr : (U.setTop g).frames = (.java g :: mid) ++ below := by rw [State.frames_setTop' g h.top, hmid]; rfl
  obtain ⟨o, s₂, hsteps, -, hend, hq⟩ := Steps.callFree hM p X.admits X.cas X.clock (acts := []) hfr happ hPc trivial
  have hq' : vx_Q Qc XC mc ms free a (U.calling g mk a) o s₂ := hq
  rw [State.frames_setTop' g h.top] at hend
  obtain ⟨g₀, hg0⟩ := Option.isSome_iff_exists.mp h.top
  obtain ⟨r, hr⟩ := State.topJava?_eq_some.mp hg0
  have hr' : (({ U with heap := s₂.heap, slotsUsed := s₂.slotsUsed } : State).setVm s₂.vm).frames = .java g₀ :: r := hr
  rcases hq' with ⟨hqc, L, hfe, hL⟩ | ⟨q, rfl, E, ce, L, hx, hce, hcv, hcl, hW₂, hsm, hL⟩
  · obtain ⟨⟨v, rfl⟩, hW₂, e2, q2, q3, q4, q5, q6⟩ := id hfe
    have e3 : s₂ = ({ (U.calling g mk a).setFrames s₂.frames with heap := s₂.heap, slotsUsed := s₂.slotsUsed } : State).setVm s₂.vm := by
      have : s₂ = ({ s₂ with vm := (U.calling g mk a).vm } : State).setVm s₂.vm := rfl
      rw [e2] at this
      exact this
    obtain ⟨c₂, i₂, len₂, hc₂, hd₂, hf₂⟩ := hend
    have hW' : U.WarmedH s₂.vm := hW₂
    have hcc : c₂ = c := by
      have h1 : s₂.code? g.method = U.code? g.method := by
        rw [State.code?_eq, State.code?_eq, hW'.alike.method?]
      exact Option.some.inj (hc₂.symm.trans (h1.trans h.code))
    subst hcc
    have hlen : len₂ = len := by rw [hdg] at hd₂; cases hd₂; rfl
    subst hlen
    have hs₂ : s₂ = (({ U with heap := s₂.heap, slotsUsed := s₂.slotsUsed } : State).setVm s₂.vm).setTop { g with pc := g.pc + len₂, stack := v.toList ++ g.stack } := by
      refine e3.trans ?_
      rw [hf₂, State.calling_eq h.top, State.setFrames_setFrames, State.setTop_of_frames _ hr', hr]
      rfl
    have hsame : U.sameButNew ({ U with heap := s₂.heap, slotsUsed := s₂.slotsUsed } : State) L mc ms := by
      refine ⟨?_, q2, q3, q4, q5, q6⟩
      obtain ⟨t, ht, -⟩ := State.frames_cons hr
      show ({ U with heap := s₂.heap, slotsUsed := s₂.slotsUsed } : State) = { U.setFrames U.frames with heap := s₂.heap, slotsUsed := s₂.slotsUsed }
      rw [State.setFrames_self ht]
    subst hg
    refine Or.inl ⟨v, ⟨(({ U with heap := s₂.heap, slotsUsed := s₂.slotsUsed } : State).setVm s₂.vm), Ls ++ L, c0 + mc, s0 + ms⟩,
      ⟨X.admits, X.cas, X.clock, X.frames, X.room, X.hears, X.method, X.code, (X.here.setHeapUsed s₂.heap s₂.slotsUsed).setVm hW'.alike, X.tail, State.WarmedH.trans X.warmed hW', X.limits, X.bytes, X.same.trans (hsame.setVm s.vm)⟩,
      ⟨g, mk, s₂, L, rfl, rfl, hqc, rfl, hL, rfl, rfl⟩, ?_⟩
    show Steps p.tables e below _ ((({ U with heap := s₂.heap, slotsUsed := s₂.slotsUsed } : State).setVm s₂.vm).setTop { g with pc := g.pc + len₂, stack := v.toList ++ g.stack })
    rw [← hs₂]
    exact hsteps
  · obtain ⟨e2, q2, q3, q4, q5, q6⟩ := id hsm
    have e3 : s₂ = ({ (U.calling g mk a).setFrames s₂.frames with heap := s₂.heap, slotsUsed := s₂.slotsUsed } : State).setVm s₂.vm := by
      have : s₂ = ({ s₂ with vm := (U.calling g mk a).vm } : State).setVm s₂.vm := rfl
      rw [e2] at this
      exact this
    have hf₂ : s₂.frames = .throwing q :: .java g :: U.frames.tail := hend
    have hW' : U.WarmedH s₂.vm := hW₂
    have hs₂ : s₂ = ((({ U with heap := s₂.heap, slotsUsed := s₂.slotsUsed } : State).setVm s₂.vm).setTop g).pushFrame (.throwing q) := by
      refine e3.trans ?_
      rw [hf₂, State.calling_eq h.top, State.setFrames_setFrames, State.pushFrame, State.frames_setTop _ hr', State.setTop_of_frames _ hr', State.setFrames_setFrames, hr]
      rfl
    have hsame : U.sameButNew ({ U with heap := s₂.heap, slotsUsed := s₂.slotsUsed } : State) L mc ms := by
      refine ⟨?_, q2, q3, q4, q5, q6⟩
      obtain ⟨t, ht, -⟩ := State.frames_cons hr
      show ({ U with heap := s₂.heap, slotsUsed := s₂.slotsUsed } : State) = { U.setFrames U.frames with heap := s₂.heap, slotsUsed := s₂.slotsUsed }
      rw [State.setFrames_self ht]
    subst hg
    refine Or.inr ⟨q, ⟨(({ U with heap := s₂.heap, slotsUsed := s₂.slotsUsed } : State).setVm s₂.vm), Ls ++ L, c0 + mc, s0 + ms⟩,
      ⟨X.admits, X.cas, X.clock, X.frames, X.room, X.hears, X.method, X.code, (X.here.setHeapUsed s₂.heap s₂.slotsUsed).setVm hW'.alike, X.tail, State.WarmedH.trans X.warmed hW', X.limits, X.bytes, X.same.trans (hsame.setVm s.vm)⟩,
      ⟨g, mk, s₂, L, E, ce, rfl, rfl, hx, hce, hcv, hcl, rfl, hL, rfl, rfl⟩, ?_⟩
    show Steps p.tables e below _ (((({ U with heap := s₂.heap, slotsUsed := s₂.slotsUsed } : State).setVm s₂.vm).setTop g).pushFrame (.throwing q))
    rw [← hs₂]
    exact hsteps
end
variable {p : Program} {l : Launch} {e : Env} {R : Room} {s : State} {m : MethodId} {args : Array Value} {below : List Frame} {meth : Method} {c : Code} {T : State} {H : Heap} {locs : List Loc} {cells slots : Nat}
theorem vx_callVX (X : Stand p l e R s m args below meth c T locs cells slots) (hexec : p.tables.exec = Jvm.exec) {own C : String} {index : Nat} {y : MethodName} {bytes : ByteArray} {maxL : Nat} {ret : Option FieldType} {hh : List (Nat × Nat × Nat × Nat)}
    (hown : s.vm.findClass own = some m.cls) (hlink : (Cond.methodLink own index y).before args s = true) (hinst : (Cond.instanceMethod y).before args s = true) (hsel : (Cond.selects C y y).before args s = true)
    (hcode : (Cond.codeWith y bytes maxL ret hh).before args s = true) (hy : y.cls ≠ "java/lang/invoke/MethodHandle" ∧ y.cls ≠ "java/lang/invoke/VarHandle")
    {W9 : Nat} {Pre : Pt → Array Value → Prop} {Post : Pt → Array Value → Option Value → Pt → Prop} {PostX : Pt → Array Value → Addr → Pt → Prop} (hK : vx_Back l R p e below s args y 3 W9 Pre Post PostX)
    {b : Addr} {cellB : Cell} (hcell : T.heap[b]? = some cellB) (hobj : cellB.vm.isStatics = false) (hcls : s.vm.findClass C = some cellB.cls)
    {g : JFrame} (hg : g.method = m) (hsize : g.locals.size = c.maxLocals) {argsL rest : List Value} (hlen : ∀ sig, parseMethodDescriptor y.desc = some sig → argsL.length = sig.parameters.length)
    (hstack : g.stack = argsL.reverse ++ .ref b :: rest) (hW : 2 * g.monitorRoom + (rest.map fun v => v.category).sum ≤ W9) (hdg : decode c.code g.pc = .ok (.invokevirtual index, 3))
    (hpre : ∀ vm₁, s.WarmedH vm₁ → Pre ⟨T.setVm vm₁, locs, cells, slots⟩ (Value.ref b :: argsL).toArray) :
    (∃ (v : Option Value) (vm₁ : Vm) (B : Pt), s.WarmedH vm₁ ∧ Stand p l e R s m args below meth c B.U B.locs B.cells B.slots ∧ Post ⟨T.setVm vm₁, locs, cells, slots⟩ (Value.ref b :: argsL).toArray v B ∧
      ∀ target, Steps p.tables e below (B.U.setTop { g with pc := g.pc + 3, stack := v.toList ++ rest }) target → Steps p.tables e below (T.setTop g) target) ∨
    (∃ (q : Addr) (vm₁ : Vm) (B : Pt), s.WarmedH vm₁ ∧ Stand p l e R s m args below meth c B.U B.locs B.cells B.slots ∧ PostX ⟨T.setVm vm₁, locs, cells, slots⟩ (Value.ref b :: argsL).toArray q B ∧
      Steps p.tables e below (T.setTop g) ((B.U.setTop { g with stack := rest }).pushFrame (.throwing q))) := by
  obtain ⟨mk, methM, hnamed, hmethM, hstM, habM⟩ := Cond.instanceMethod_spec hinst
  obtain ⟨m8, methM', cM, hn8, hmethM', -, -, -, -, -, -, hsigM⟩ := Cond.codeWith_spec hcode
  cases Option.some.inj (hn8.symm.trans hnamed)
  cases hmethM.symm.trans hmethM'
  obtain ⟨c2, r2, m2, q1, q2, q3, q4, kP, hkP, hkPi⟩ := Cond.selects_spec hsel
  cases hcls.symm.trans q1
  cases (State.methodFound?_of_named hnamed hy).symm.trans q2
  cases hnamed.symm.trans q3
  have hselP : selectMethod e.platform s.vm cellB.cls mk = .method mk := by rw [Launch.admits_selectMethod X.admits]; exact q4
  obtain ⟨vm₁, X₁, hstep₁⟩ := X.invokevirtual hexec hown hlink hnamed hmethM hstM hkP hkPi hy (a := b) (cell := cellB) hcell
    (fun z h => by rw [h] at hobj; cases hobj) hselP hmethM habM hkP hkPi (g := g) hg (argsL := argsL) (rest := rest) (hlen _ hsigM) hstack hdg
  rcases hK m meth c ⟨T.setVm vm₁, locs, cells, slots⟩ { g with stack := rest } (.invokevirtual index) mk (Value.ref b :: argsL).toArray X₁ hg hsize hdg hW (X₁.named hnamed) (hpre vm₁ X₁.warmed) with ⟨v, B, X', hpost, hsteps⟩ | ⟨q, B, X', hpost, hsteps⟩
  · exact Or.inl ⟨v, vm₁, B, X₁.warmed, X', hpost, fun target h => hstep₁ _ fun acts => by rw [doInvoke_state]; exact hsteps.trans h⟩
  · exact Or.inr ⟨q, vm₁, B, X₁.warmed, X', hpost, hstep₁ _ fun acts => by rw [doInvoke_state]; exact hsteps⟩
theorem vx_callSX (X : Stand p l e R s m args below meth c T locs cells slots) (hexec : p.tables.exec = Jvm.exec) {own : String} {index : Nat} {y : MethodName} {bytes : ByteArray} {maxL : Nat} {ret : Option FieldType} {hh : List (Nat × Nat × Nat × Nat)}
    (hown : s.vm.findClass own = some m.cls) (hlink : (Cond.methodLink own index y).before args s = true) (hstat : (Cond.static y).before args s = true) (hinit : (Cond.initialized y.cls).before args s = true)
    (hcode : (Cond.codeWith y bytes maxL ret hh).before args s = true) (hy : y.cls ≠ "java/lang/invoke/MethodHandle" ∧ y.cls ≠ "java/lang/invoke/VarHandle")
    {W9 : Nat} {Pre : Pt → Array Value → Prop} {Post : Pt → Array Value → Option Value → Pt → Prop} {PostX : Pt → Array Value → Addr → Pt → Prop} (hK : vx_Back l R p e below s args y 3 W9 Pre Post PostX)
    {g : JFrame} (hg : g.method = m) (hsize : g.locals.size = c.maxLocals) {argsL rest : List Value} (hlen : ∀ sig, parseMethodDescriptor y.desc = some sig → argsL.length = sig.parameters.length)
    (hstack : g.stack = argsL.reverse ++ rest) (hW : 2 * g.monitorRoom + (rest.map fun v => v.category).sum ≤ W9) (hdg : decode c.code g.pc = .ok (.invokestatic index, 3))
    (hpre : ∀ vm₁, s.WarmedH vm₁ → Pre ⟨T.setVm vm₁, locs, cells, slots⟩ argsL.toArray) :
    (∃ (v : Option Value) (vm₁ : Vm) (B : Pt), s.WarmedH vm₁ ∧ Stand p l e R s m args below meth c B.U B.locs B.cells B.slots ∧ Post ⟨T.setVm vm₁, locs, cells, slots⟩ argsL.toArray v B ∧
      ∀ target, Steps p.tables e below (B.U.setTop { g with pc := g.pc + 3, stack := v.toList ++ rest }) target → Steps p.tables e below (T.setTop g) target) ∨
    (∃ (q : Addr) (vm₁ : Vm) (B : Pt), s.WarmedH vm₁ ∧ Stand p l e R s m args below meth c B.U B.locs B.cells B.slots ∧ PostX ⟨T.setVm vm₁, locs, cells, slots⟩ argsL.toArray q B ∧
      Steps p.tables e below (T.setTop g) ((B.U.setTop { g with stack := rest }).pushFrame (.throwing q))) := by
  obtain ⟨mk, methM, cM, hnamed, hmethM, -, -, -, -, -, -, hsigM⟩ := Cond.codeWith_spec hcode
  have hstatic : methM.isStatic = true := Cond.static_spec hnamed hmethM hstat
  obtain ⟨kP, hkP, -⟩ := className_of_methodNamed hnamed
  have hinitP : kP.init = .initialized := Cond.initialized_spec (findClass_of_methodNamed hnamed) hkP hinit
  obtain ⟨vm₁, X₁, hstep₁⟩ := X.invokestatic hexec hown hlink hnamed hmethM hstatic hkP hinitP hy (g := g) hg (argsL := argsL) (rest := rest) (hlen _ hsigM) hstack hdg
  rcases hK m meth c ⟨T.setVm vm₁, locs, cells, slots⟩ { g with stack := rest } (.invokestatic index) mk argsL.toArray X₁ hg hsize hdg hW (X₁.named hnamed) (hpre vm₁ X₁.warmed) with ⟨v, B, X', hpost, hsteps⟩ | ⟨q, B, X', hpost, hsteps⟩
  · exact Or.inl ⟨v, vm₁, B, X₁.warmed, X', hpost, fun target h => hstep₁ _ fun acts => by rw [doInvoke_state]; exact hsteps.trans h⟩
  · exact Or.inr ⟨q, vm₁, B, X₁.warmed, X', hpost, hstep₁ _ fun acts => by rw [doInvoke_state]; exact hsteps⟩
theorem vx_callVW (X : Stand p l e R s m args below meth c T locs cells slots) (hexec : p.tables.exec = Jvm.exec) {own C : String} {index : Nat} {y : MethodName} {bytes : ByteArray} {maxL : Nat} {ret : Option FieldType} {hh : List (Nat × Nat × Nat × Nat)}
    (hown : s.vm.findClass own = some m.cls) (hlink : (Cond.methodLink own index y).before args s = true) (hinst : (Cond.instanceMethod y).before args s = true) (hsel : (Cond.selects C y y).before args s = true)
    (hcode : (Cond.codeWith y bytes maxL ret hh).before args s = true) (hy : y.cls ≠ "java/lang/invoke/MethodHandle" ∧ y.cls ≠ "java/lang/invoke/VarHandle")
    {W9 : Nat} {Pre : Pt → Array Value → Prop} {Post : Pt → Array Value → Option Value → Pt → Prop} (hK : Back l R p e below s args y 3 W9 Pre Post)
    {b : Addr} {cellB : Cell} (hcell : T.heap[b]? = some cellB) (hobj : cellB.vm.isStatics = false) (hcls : s.vm.findClass C = some cellB.cls)
    {g : JFrame} (hg : g.method = m) (hsize : g.locals.size = c.maxLocals) {argsL rest : List Value} (hlen : ∀ sig, parseMethodDescriptor y.desc = some sig → argsL.length = sig.parameters.length)
    (hstack : g.stack = argsL.reverse ++ .ref b :: rest) (hW : 2 * g.monitorRoom + (rest.map fun v => v.category).sum ≤ W9) (hdg : decode c.code g.pc = .ok (.invokevirtual index, 3))
    (hpre : ∀ vm₁, s.WarmedH vm₁ → Pre ⟨T.setVm vm₁, locs, cells, slots⟩ (Value.ref b :: argsL).toArray) :
    ∃ (v : Option Value) (vm₁ : Vm) (B : Pt), s.WarmedH vm₁ ∧ Stand p l e R s m args below meth c B.U B.locs B.cells B.slots ∧ Post ⟨T.setVm vm₁, locs, cells, slots⟩ (Value.ref b :: argsL).toArray v B ∧
      ∀ target, Steps p.tables e below (B.U.setTop { g with pc := g.pc + 3, stack := v.toList ++ rest }) target → Steps p.tables e below (T.setTop g) target := by
  obtain ⟨mk, methM, hnamed, hmethM, hstM, habM⟩ := Cond.instanceMethod_spec hinst
  obtain ⟨m8, methM', cM, hn8, hmethM', -, -, -, -, -, -, hsigM⟩ := Cond.codeWith_spec hcode
  cases Option.some.inj (hn8.symm.trans hnamed)
  cases hmethM.symm.trans hmethM'
  obtain ⟨c2, r2, m2, q1, q2, q3, q4, kP, hkP, hkPi⟩ := Cond.selects_spec hsel
  cases hcls.symm.trans q1
  cases (State.methodFound?_of_named hnamed hy).symm.trans q2
  cases hnamed.symm.trans q3
  have hselP : selectMethod e.platform s.vm cellB.cls mk = .method mk := by rw [Launch.admits_selectMethod X.admits]; exact q4
  obtain ⟨vm₁, X₁, hstep₁⟩ := X.invokevirtual hexec hown hlink hnamed hmethM hstM hkP hkPi hy (a := b) (cell := cellB) hcell
    (fun z h => by rw [h] at hobj; cases hobj) hselP hmethM habM hkP hkPi (g := g) hg (argsL := argsL) (rest := rest) (hlen _ hsigM) hstack hdg
  obtain ⟨v, B, X', hpost, hsteps⟩ := hK m meth c ⟨T.setVm vm₁, locs, cells, slots⟩ { g with stack := rest } (.invokevirtual index) mk (Value.ref b :: argsL).toArray X₁ hg hsize hdg hW (X₁.named hnamed) (hpre vm₁ X₁.warmed)
  exact ⟨v, vm₁, B, X₁.warmed, X', hpost, fun target h => hstep₁ _ fun acts => by rw [doInvoke_state]; exact hsteps.trans h⟩
abbrev vx_CVW (R : Room) (s : State) (args : Array Value) (own C : String) (index : Nat) (y : MethodName) (bytes : ByteArray) (maxL : Nat) (ret : Option FieldType) (hh : List (Nat × Nat × Nat × Nat)) (ws : List Cond) (rm : Room) (mc ms n : Nat) : Prop :=
  (rm.cells = mc ∧ rm.slots = ms ∧ rm.frames + 1 ≤ R.frames ∧ 8 + (maxL + 11) + rm.locals ≤ R.locals ∧ (∀ w ∈ ws, ∀ (a' : Array Value) (U : State), s.WarmedH U.vm → w.before a' U = true) ∧ Cond.codeWith y bytes maxL ret hh ∈ ws) ∧
  (Cond.codeWith y bytes maxL ret hh).before args s = true ∧ (Cond.initialized y.cls).before args s = true ∧ (y.cls ≠ "java/lang/invoke/MethodHandle" ∧ y.cls ≠ "java/lang/invoke/VarHandle") ∧
  (∀ sig, parseMethodDescriptor y.desc = some sig → n = sig.parameters.length) ∧ (Cond.methodLink own index y).before args s = true ∧ (Cond.instanceMethod y).before args s = true ∧ (Cond.selects C y y).before args s = true
theorem vx_cwVW {own C : String} {index maxL mc ms : Nat} {y : MethodName} {bytes : ByteArray} {ret : Option FieldType} {hh : List (Nat × Nat × Nat × Nat)} {Ts ws ws' : List Cond} {rm : Room} (n : Nat) (ht : ∀ w ∈ Ts, w.before args s = true) (hT : GoodIn Ts (wsV own index C y ws)) (hw : ws = Cond.codeWith y bytes maxL ret hh :: ws') (hrc : rm.cells = mc) (hrs : rm.slots = ms)
    (hd : y.cls = C ∧ y.cls ≠ "java/lang/invoke/MethodHandle" ∧ y.cls ≠ "java/lang/invoke/VarHandle" ∧ (parseMethodDescriptor y.desc).map (fun d => d.parameters.length) = some n) (hR : rm.frames + 1 ≤ R.frames ∧ 8 + (maxL + 11) + rm.locals ≤ R.locals) :
    vx_CVW R s args own C index y bytes maxL ret hh ws rm mc ms n := by
  obtain ⟨hC, hd⟩ := hd
  subst hC
  have ok : ∀ w ∈ wsV own index y.cls y ws, w.before args s = true := fun w h => ht w (hT w h).1
  have hG : GoodIn Ts ws := fun w h => hT w (by unfold wsV; exact List.mem_append_right _ h)
  have hc : Cond.codeWith y bytes maxL ret hh ∈ ws := by rw [hw]; exact List.mem_cons_self
  refine ⟨⟨hrc, hrs, hR.1, hR.2, pay_in ht hG, hc⟩, ht _ (hG _ hc).1, ok _ (by simp [wsV]), ⟨hd.1, hd.2.1⟩, fun sig h => ?_, ok _ (by simp [wsV]), ok _ (by simp [wsV]), ok _ (by simp [wsV])⟩
  have h2 := hd.2.2
  rw [h] at h2
  exact (Option.some.inj h2).symm
theorem vx_runVW {y : MethodName} {bytes cc : ByteArray} {maxL nL mc ms n index : Nat} {ret : Option FieldType} {hh : List (Nat × Nat × Nat × Nat)} {ws : List Cond} {rm : Room} {Pc : Array Value → State → Prop} {Qc : Array Value → State → Outcome → State → Prop} {free : Addr → Prop} {Ts : List Cond} {own C : String} {b : Addr} {As rest : List Value} {g : JFrame}
    (S : CallFix p m c cc nL s args Ts own) (hM : Met l y ws rm Pc Qc mc ms free) (cw : vx_CVW R s args own C index y bytes maxL ret hh ws rm mc ms n) (hp : PreV s H C b Pc As)
    (hg : g.method = m) (hn : As.length = n) (hsize : g.locals.size = nL) (hstack : g.stack = As.reverse ++ .ref b :: rest) (hW : 2 * g.monitorRoom + (rest.map fun v => v.category).sum ≤ 8) (hdg : decode cc g.pc = .ok (.invokevirtual index, 3)) (hf : cells + mc ≤ R.cells ∧ slots + ms ≤ R.slots) :
    va_Run p l e R s m args below meth c H locs cells slots mc ms g rest (Qc (Value.ref b :: As).toArray) free := by
  obtain ⟨⟨hrc, hrs, hfr, hlo, hws, hcw⟩, hcode, hini, hy, hlen, hl, hin, hse⟩ := cw
  have hK : Back l R p e below s args y 3 8 (PreOf R mc ms Pc) (PostOf Qc mc ms free) := va_backW (hh := hh) (bytes := bytes) (maxL := maxL) (ret := ret) hM hp.1 hrc hrs hfr hlo hws hcw (fun a' U hW => word_at hW (Or.inl (by first | rfl | simp [Cond.onTables, Cond.keeps, Cond.steady])) hini)
  obtain ⟨hx, hb, hml, ho, -⟩ := S
  obtain ⟨-, ⟨cellB, hcB, hoB, hclB⟩, hPc⟩ := hp
  intro T hT X
  obtain ⟨v, vm₁, ⟨U', l2, c2, s2⟩, hW₁, X', ⟨g', mk, t, L, e1, e2, hq, h1, hL, h2, h3⟩, st⟩ := vx_callVW X hx (C := C) (hh := hh) (bytes := bytes) (maxL := maxL) (ret := ret) ho hl hin hse hcode hy hK (by rw [hT]; exact hcB) hoB hclB hg (hsize.trans hml.symm) (argsL := As) (rest := rest) (fun sig h => hn.trans (hlen sig h)) hstack hW (by rw [hb]; exact hdg)
    (fun vm₁ hW₁ => ⟨hf.1, hf.2, hPc (T.setVm vm₁) hT hW₁⟩)
  dsimp only [Pt.U, Pt.locs, Pt.cells, Pt.slots] at X' e1 e2 h1 h2 h3 st
  subst h1; subst h2; subst h3
  exact ⟨v, (T.setVm vm₁).calling g' mk (Value.ref b :: As).toArray, t, U', L, hT, X', hL, e1, e2, hq, st⟩
section
variable {y : MethodName} {bytes cc : ByteArray} {maxL nL mc ms n index : Nat} {ret : Option FieldType} {ws : List Cond} {rm : Room} {Pc : Array Value → State → Prop} {Qc : Array Value → State → Outcome → State → Prop} {XC : String → State → State → Prop} {free : Addr → Prop} {Ts : List Cond} {own C : String} {b : Addr} {As rest : List Value} {g : JFrame}
theorem vx_runVX {hh : List (Nat × Nat × Nat × Nat)} (S : CallFix p m c cc nL s args Ts own) (hM : vx_Met l y ws rm Pc Qc XC mc ms free) (cw : vx_CVW R s args own C index y bytes maxL ret hh ws rm mc ms n) (hp : PreV s H C b Pc As)
    (hg : g.method = m) (hn : As.length = n) (hsize : g.locals.size = nL) (hstack : g.stack = As.reverse ++ .ref b :: rest) (hW : 2 * g.monitorRoom + (rest.map fun v => v.category).sum ≤ 8) (hdg : decode cc g.pc = .ok (.invokevirtual index, 3)) (hf : cells + mc ≤ R.cells ∧ slots + ms ≤ R.slots) :
    vx_Run p l e R s m args below meth c H locs cells slots mc ms g rest (Qc (Value.ref b :: As).toArray) XC free := by
  obtain ⟨⟨hrc, hrs, hfr, hlo, hws, hcw⟩, hcode, hini, hy, hlen, hl, hin, hse⟩ := cw
  have hK : vx_Back l R p e below s args y 3 8 (PreOf R mc ms Pc) (PostOf Qc mc ms free) (vx_Post XC mc ms free) := vx_backW (hh := hh) (bytes := bytes) (maxL := maxL) (ret := ret) hM hp.1 hrc hrs hfr hlo hws hcw (fun a' U hW => word_at hW (Or.inl (by first | rfl | simp [Cond.onTables, Cond.keeps, Cond.steady])) hini)
  obtain ⟨hx, hb, hml, ho, -⟩ := S
  obtain ⟨-, ⟨cellB, hcB, hoB, hclB⟩, hPc⟩ := hp
  intro T hT X
  rcases vx_callVX X hx (C := C) (hh := hh) (bytes := bytes) (maxL := maxL) (ret := ret) ho hl hin hse hcode hy hK (by rw [hT]; exact hcB) hoB hclB hg (hsize.trans hml.symm) (argsL := As) (rest := rest) (fun sig h => hn.trans (hlen sig h)) hstack hW (by rw [hb]; exact hdg)
    (fun vm₁ hW₁ => ⟨hf.1, hf.2, hPc (T.setVm vm₁) hT hW₁⟩) with ⟨v, vm₁, ⟨U', l2, c2, s2⟩, hW₁, X', ⟨g', mk, t, L, e1, e2, hq, h1, hL, h2, h3⟩, st⟩ | ⟨q, vm₁, ⟨U', l2, c2, s2⟩, hW₁, X', ⟨g', mk, t, L, E, ce, e1, e2, hq, hce, hcv, hcl, h1, hL, h2, h3⟩, st⟩
  · dsimp only [Pt.U, Pt.locs, Pt.cells, Pt.slots] at X' e1 e2 h1 h2 h3 st
    subst h1; subst h2; subst h3
    exact Or.inl ⟨v, (T.setVm vm₁).calling g' mk (Value.ref b :: As).toArray, t, U', L, hT, X', hL, e1, e2, hq, st⟩
  · dsimp only [Pt.U, Pt.locs, Pt.cells, Pt.slots] at X' e1 e2 h1 h2 h3 st hcl
    subst h1; subst h2; subst h3
    exact Or.inr ⟨q, (T.setVm vm₁).calling g' mk (Value.ref b :: As).toArray, t, U', L, E, ce, hT, X', hL, e1, e2, hq, hce, hcv, vx_cls hW₁ hcl, st⟩
theorem vx_runSX {hh : List (Nat × Nat × Nat × Nat)} (S : CallFix p m c cc nL s args Ts own) (hM : vx_Met l y ws rm Pc Qc XC mc ms free) (cw : vx_CSW R s args own index y bytes maxL ret hh ws rm mc ms n) (hp : PreS s H Pc As)
    (hg : g.method = m) (hn : As.length = n) (hsize : g.locals.size = nL) (hstack : g.stack = As.reverse ++ rest) (hW : 2 * g.monitorRoom + (rest.map fun v => v.category).sum ≤ 8) (hdg : decode cc g.pc = .ok (.invokestatic index, 3)) (hf : cells + mc ≤ R.cells ∧ slots + ms ≤ R.slots) :
    vx_Run p l e R s m args below meth c H locs cells slots mc ms g rest (Qc As.toArray) XC free := by
  obtain ⟨⟨hrc, hrs, hfr, hlo, hws, hcw⟩, hcode, hini, hy, hlen, hl, hstt⟩ := cw
  have hK : vx_Back l R p e below s args y 3 8 (PreOf R mc ms Pc) (PostOf Qc mc ms free) (vx_Post XC mc ms free) := vx_backW (hh := hh) (bytes := bytes) (maxL := maxL) (ret := ret) hM hp.1 hrc hrs hfr hlo hws hcw (fun a' U hW => word_at hW (Or.inl (by first | rfl | simp [Cond.onTables, Cond.keeps, Cond.steady])) hini)
  obtain ⟨hx, hb, hml, ho, -⟩ := S
  intro T hT X
  rcases vx_callSX X hx (hh := hh) (bytes := bytes) (maxL := maxL) (ret := ret) ho hl hstt hini hcode hy hK hg (hsize.trans hml.symm) (argsL := As) (rest := rest) (fun sig h => hn.trans (hlen sig h)) hstack hW (by rw [hb]; exact hdg)
    (fun vm₁ hW₁ => ⟨hf.1, hf.2, hp.2 (T.setVm vm₁) hT hW₁⟩) with ⟨v, vm₁, ⟨U', l2, c2, s2⟩, hW₁, X', ⟨g', mk, t, L, e1, e2, hq, h1, hL, h2, h3⟩, st⟩ | ⟨q, vm₁, ⟨U', l2, c2, s2⟩, hW₁, X', ⟨g', mk, t, L, E, ce, e1, e2, hq, hce, hcv, hcl, h1, hL, h2, h3⟩, st⟩
  · dsimp only [Pt.U, Pt.locs, Pt.cells, Pt.slots] at X' e1 e2 h1 h2 h3 st
    subst h1; subst h2; subst h3
    exact Or.inl ⟨v, (T.setVm vm₁).calling g' mk As.toArray, t, U', L, hT, X', hL, e1, e2, hq, st⟩
  · dsimp only [Pt.U, Pt.locs, Pt.cells, Pt.slots] at X' e1 e2 h1 h2 h3 st hcl
    subst h1; subst h2; subst h3
    exact Or.inr ⟨q, (T.setVm vm₁).calling g' mk As.toArray, t, U', L, E, ce, hT, X', hL, e1, e2, hq, hce, hcv, vx_cls hW₁ hcl, st⟩
end
end VXH
theorem vx_ofWH {l : Launch} {y : MethodName} {ws ws' : List Cond} {rm : Room} {Pc : Array Value → State → Prop} {Qc : Array Value → State → Outcome → State → Prop} {XC : String → State → State → Prop} {mc ms : Nat} {free : Addr → Prop} {cc : ByteArray} {maxL : Nat} {ret : Option FieldType} {hh : List (Nat × Nat × Nat × Nat)}
    (hy : plainName y.cls = true) (hw : ws = Cond.codeWith y cc maxL ret hh :: ws')
    (body : ∀ p e s m args below meth c s₁, BodyLoose p l y (headSpec ws rm) cc maxL ret e s m args below meth c s₁ → c.maxLocals = maxL → Pc args s →
      W p l e (headSpec ws rm).room s m args below meth c s.heap [] 0 0 (vx_MQ below Qc XC args s mc ms free) (entryFrame m args maxL)) : vx_Met l y ws rm Pc Qc XC mc ms free := by
  refine MetFree.of_bodyS (code := cc) (maxLocals := maxL) (ret := ret) hy ?_ ?_
  · intro args s m h hn
    obtain ⟨m9, meth, c, hn9, h1, h2, h3, h4, -, h5, h6, -⟩ := Cond.codeWith_spec (atoms_spec (ws := ws) h _ (by rw [hw]; exact List.mem_cons_self))
    cases hn.symm.trans hn9
    exact ⟨meth, c, h1, h2, h3, h4, h5, h6⟩
  · intro p e s m args below meth c s₁ B hml hP _
    have hh0 : s₁.heap = s.heap := by rw [B.state]; rfl
    obtain ⟨t, a1, o, b1, b2, b3⟩ := body p e s m args below meth c s₁ B hml hP s₁ hh0 (Stand.of_body B)
    exact ⟨t, o, a1, b1, b2, b3⟩
/-! ===== END ===== -/
end
section
-- ===== PART A: goes FIRST, ahead of the names: the tables' words, and 'selects' of the private methods out of them =====
/-- a private method of a class that the tables say can be made, by its rows of tables_1 -/
def lw_okq (q : MethodName × Nat) : Prop := (q.1.cls ≠ "java/lang/invoke/MethodHandle" ∧ q.1.cls ≠ "java/lang/invoke/VarHandle") ∧ Cond.instantiable q.1.cls q.2 ∈ tables_1 ∧ Cond.privateMethod q.1 ∈ tables_1 ∧ Cond.instanceMethod q.1 ∈ tables_1
theorem lw_p0 : lw_okq (⟨"KindredBooks$Paper", "checkLine", "(LKindredBooks$Text;I)I"⟩, 8) := ⟨⟨by decide +kernel, by decide +kernel⟩, List.mem_of_getElem? (i := 211) (by decide +kernel), List.mem_of_getElem? (i := 404) (by decide +kernel), List.mem_of_getElem? (i := 405) (by decide +kernel)⟩
theorem lw_p1 : lw_okq (⟨"KindredBooks$Paper", "tell", "(II)I"⟩, 8) := ⟨⟨by decide +kernel, by decide +kernel⟩, List.mem_of_getElem? (i := 211) (by decide +kernel), List.mem_of_getElem? (i := 418) (by decide +kernel), List.mem_of_getElem? (i := 419) (by decide +kernel)⟩
theorem lw_p2 : lw_okq (⟨"java/lang/Throwable", "fillInStackTrace", "(I)Ljava/lang/Throwable;"⟩, 6) := ⟨⟨by decide +kernel, by decide +kernel⟩, List.mem_of_getElem? (i := 500) (by decide +kernel), List.mem_of_getElem? (i := 498) (by decide +kernel), List.mem_of_getElem? (i := 499) (by decide +kernel)⟩
theorem lw_p3 : lw_okq (⟨"KindredBooks", "bookOf", "(I)LKindredBooks$Book;"⟩, 12) := ⟨⟨by decide +kernel, by decide +kernel⟩, List.mem_of_getElem? (i := 44) (by decide +kernel), List.mem_of_getElem? (i := 604) (by decide +kernel), List.mem_of_getElem? (i := 605) (by decide +kernel)⟩
theorem lw_p4 : lw_okq (⟨"KindredBooks", "checkRoom", "()V"⟩, 12) := ⟨⟨by decide +kernel, by decide +kernel⟩, List.mem_of_getElem? (i := 44) (by decide +kernel), List.mem_of_getElem? (i := 624) (by decide +kernel), List.mem_of_getElem? (i := 625) (by decide +kernel)⟩
theorem lw_p5 : lw_okq (⟨"KindredBooks$Book", "append", "(IIILKindredBooks$Line;)I"⟩, 9) := ⟨⟨by decide +kernel, by decide +kernel⟩, List.mem_of_getElem? (i := 262) (by decide +kernel), List.mem_of_getElem? (i := 633) (by decide +kernel), List.mem_of_getElem? (i := 634) (by decide +kernel)⟩
theorem lw_p6 : lw_okq (⟨"KindredBooks$Book", "learn", "(LKindredBooks$Change;)V"⟩, 9) := ⟨⟨by decide +kernel, by decide +kernel⟩, List.mem_of_getElem? (i := 262) (by decide +kernel), List.mem_of_getElem? (i := 642) (by decide +kernel), List.mem_of_getElem? (i := 643) (by decide +kernel)⟩
theorem lw_p7 : lw_okq (⟨"KindredBooks$Book", "settle", "()V"⟩, 9) := ⟨⟨by decide +kernel, by decide +kernel⟩, List.mem_of_getElem? (i := 262) (by decide +kernel), List.mem_of_getElem? (i := 653) (by decide +kernel), List.mem_of_getElem? (i := 654) (by decide +kernel)⟩
theorem lw_p8 : lw_okq (⟨"KindredBooks$Book", "findCounting", "()V"⟩, 9) := ⟨⟨by decide +kernel, by decide +kernel⟩, List.mem_of_getElem? (i := 262) (by decide +kernel), List.mem_of_getElem? (i := 657) (by decide +kernel), List.mem_of_getElem? (i := 658) (by decide +kernel)⟩
theorem lw_p9 : lw_okq (⟨"KindredBooks$Book", "findLive", "()V"⟩, 9) := ⟨⟨by decide +kernel, by decide +kernel⟩, List.mem_of_getElem? (i := 262) (by decide +kernel), List.mem_of_getElem? (i := 662) (by decide +kernel), List.mem_of_getElem? (i := 663) (by decide +kernel)⟩
theorem lw_p10 : lw_okq (⟨"KindredBooks$Book", "findStanding", "()V"⟩, 9) := ⟨⟨by decide +kernel, by decide +kernel⟩, List.mem_of_getElem? (i := 262) (by decide +kernel), List.mem_of_getElem? (i := 666) (by decide +kernel), List.mem_of_getElem? (i := 667) (by decide +kernel)⟩
theorem lw_p11 : lw_okq (⟨"KindredBooks", "checkKind", "(I)V"⟩, 12) := ⟨⟨by decide +kernel, by decide +kernel⟩, List.mem_of_getElem? (i := 44) (by decide +kernel), List.mem_of_getElem? (i := 691) (by decide +kernel), List.mem_of_getElem? (i := 692) (by decide +kernel)⟩
theorem lw_p12 : lw_okq (⟨"KindredBooks", "checkLive", "(LKindredBooks$Book;I)V"⟩, 12) := ⟨⟨by decide +kernel, by decide +kernel⟩, List.mem_of_getElem? (i := 44) (by decide +kernel), List.mem_of_getElem? (i := 696) (by decide +kernel), List.mem_of_getElem? (i := 697) (by decide +kernel)⟩
theorem lw_p13 : lw_okq (⟨"KindredBooks$Line", "edge", "(I)I"⟩, 7) := ⟨⟨by decide +kernel, by decide +kernel⟩, List.mem_of_getElem? (i := 77) (by decide +kernel), List.mem_of_getElem? (i := 741) (by decide +kernel), List.mem_of_getElem? (i := 742) (by decide +kernel)⟩
theorem lw_p14 : lw_okq (⟨"KindredBooks$Line", "addPiece", "(I)V"⟩, 7) := ⟨⟨by decide +kernel, by decide +kernel⟩, List.mem_of_getElem? (i := 77) (by decide +kernel), List.mem_of_getElem? (i := 746) (by decide +kernel), List.mem_of_getElem? (i := 747) (by decide +kernel)⟩
theorem lw_p15 : lw_okq (⟨"KindredBooks", "makeOfTwo", "(IIII)I"⟩, 12) := ⟨⟨by decide +kernel, by decide +kernel⟩, List.mem_of_getElem? (i := 44) (by decide +kernel), List.mem_of_getElem? (i := 757) (by decide +kernel), List.mem_of_getElem? (i := 758) (by decide +kernel)⟩
def lw_privs_1 : List (MethodName × Nat) := [(⟨"KindredBooks$Paper", "checkLine", "(LKindredBooks$Text;I)I"⟩, 8), (⟨"KindredBooks$Paper", "tell", "(II)I"⟩, 8), (⟨"java/lang/Throwable", "fillInStackTrace", "(I)Ljava/lang/Throwable;"⟩, 6), (⟨"KindredBooks", "bookOf", "(I)LKindredBooks$Book;"⟩, 12), (⟨"KindredBooks", "checkRoom", "()V"⟩, 12), (⟨"KindredBooks$Book", "append", "(IIILKindredBooks$Line;)I"⟩, 9), (⟨"KindredBooks$Book", "learn", "(LKindredBooks$Change;)V"⟩, 9), (⟨"KindredBooks$Book", "settle", "()V"⟩, 9), (⟨"KindredBooks$Book", "findCounting", "()V"⟩, 9), (⟨"KindredBooks$Book", "findLive", "()V"⟩, 9), (⟨"KindredBooks$Book", "findStanding", "()V"⟩, 9), (⟨"KindredBooks", "checkKind", "(I)V"⟩, 12), (⟨"KindredBooks", "checkLive", "(LKindredBooks$Book;I)V"⟩, 12), (⟨"KindredBooks$Line", "edge", "(I)I"⟩, 7), (⟨"KindredBooks$Line", "addPiece", "(I)V"⟩, 7), (⟨"KindredBooks", "makeOfTwo", "(IIII)I"⟩, 12)]
theorem lw_r1 : ∀ q ∈ lw_privs_1, lw_okq q := List.forall_mem_cons.mpr ⟨lw_p0, List.forall_mem_cons.mpr ⟨lw_p1, List.forall_mem_cons.mpr ⟨lw_p2, List.forall_mem_cons.mpr ⟨lw_p3, List.forall_mem_cons.mpr ⟨lw_p4, List.forall_mem_cons.mpr ⟨lw_p5, List.forall_mem_cons.mpr ⟨lw_p6, List.forall_mem_cons.mpr ⟨lw_p7, List.forall_mem_cons.mpr ⟨lw_p8, List.forall_mem_cons.mpr ⟨lw_p9, List.forall_mem_cons.mpr ⟨lw_p10, List.forall_mem_cons.mpr ⟨lw_p11, List.forall_mem_cons.mpr ⟨lw_p12, List.forall_mem_cons.mpr ⟨lw_p13, List.forall_mem_cons.mpr ⟨lw_p14, List.forall_mem_cons.mpr ⟨lw_p15, fun _ h => absurd h List.not_mem_nil⟩⟩⟩⟩⟩⟩⟩⟩⟩⟩⟩⟩⟩⟩⟩⟩
theorem lw_p16 : lw_okq (⟨"KindredBooks", "checkChange", "(I)V"⟩, 12) := ⟨⟨by decide +kernel, by decide +kernel⟩, List.mem_of_getElem? (i := 44) (by decide +kernel), List.mem_of_getElem? (i := 790) (by decide +kernel), List.mem_of_getElem? (i := 791) (by decide +kernel)⟩
theorem lw_p17 : lw_okq (⟨"KindredBooks", "kinOf", "(I)LKindredBooks$Kin;"⟩, 12) := ⟨⟨by decide +kernel, by decide +kernel⟩, List.mem_of_getElem? (i := 44) (by decide +kernel), List.mem_of_getElem? (i := 864) (by decide +kernel), List.mem_of_getElem? (i := 865) (by decide +kernel)⟩
theorem lw_p18 : lw_okq (⟨"KindredBooks$Kin", "joinEntries", "()V"⟩, 13) := ⟨⟨by decide +kernel, by decide +kernel⟩, List.mem_of_getElem? (i := 299) (by decide +kernel), List.mem_of_getElem? (i := 872) (by decide +kernel), List.mem_of_getElem? (i := 873) (by decide +kernel)⟩
theorem lw_p19 : lw_okq (⟨"KindredBooks$Kin", "joinBy", "(LKindredBooks$Change;)V"⟩, 13) := ⟨⟨by decide +kernel, by decide +kernel⟩, List.mem_of_getElem? (i := 299) (by decide +kernel), List.mem_of_getElem? (i := 882) (by decide +kernel), List.mem_of_getElem? (i := 883) (by decide +kernel)⟩
theorem lw_p20 : lw_okq (⟨"KindredBooks$Kin", "listGroups", "()V"⟩, 13) := ⟨⟨by decide +kernel, by decide +kernel⟩, List.mem_of_getElem? (i := 299) (by decide +kernel), List.mem_of_getElem? (i := 896) (by decide +kernel), List.mem_of_getElem? (i := 897) (by decide +kernel)⟩
theorem lw_p21 : lw_okq (⟨"KindredBooks$Kin", "placeLines", "()V"⟩, 13) := ⟨⟨by decide +kernel, by decide +kernel⟩, List.mem_of_getElem? (i := 299) (by decide +kernel), List.mem_of_getElem? (i := 900) (by decide +kernel), List.mem_of_getElem? (i := 901) (by decide +kernel)⟩
theorem lw_p22 : lw_okq (⟨"KindredBooks$Kin", "ownerOf", "(LKindredBooks$Change;)I"⟩, 13) := ⟨⟨by decide +kernel, by decide +kernel⟩, List.mem_of_getElem? (i := 299) (by decide +kernel), List.mem_of_getElem? (i := 908) (by decide +kernel), List.mem_of_getElem? (i := 909) (by decide +kernel)⟩
theorem lw_p23 : lw_okq (⟨"KindredBooks$Kin", "putLine", "(II)V"⟩, 13) := ⟨⟨by decide +kernel, by decide +kernel⟩, List.mem_of_getElem? (i := 299) (by decide +kernel), List.mem_of_getElem? (i := 912) (by decide +kernel), List.mem_of_getElem? (i := 913) (by decide +kernel)⟩
theorem lw_p24 : lw_okq (⟨"KindredBooks$Kin", "markShown", "(I)V"⟩, 13) := ⟨⟨by decide +kernel, by decide +kernel⟩, List.mem_of_getElem? (i := 299) (by decide +kernel), List.mem_of_getElem? (i := 920) (by decide +kernel), List.mem_of_getElem? (i := 921) (by decide +kernel)⟩
theorem lw_p25 : lw_okq (⟨"KindredBooks$Kin", "changeAt", "(I)I"⟩, 13) := ⟨⟨by decide +kernel, by decide +kernel⟩, List.mem_of_getElem? (i := 299) (by decide +kernel), List.mem_of_getElem? (i := 936) (by decide +kernel), List.mem_of_getElem? (i := 937) (by decide +kernel)⟩
theorem lw_p26 : lw_okq (⟨"KindredBooks$Kin", "hasValueBetween", "(IILKindredBooks$Line;)Z"⟩, 13) := ⟨⟨by decide +kernel, by decide +kernel⟩, List.mem_of_getElem? (i := 299) (by decide +kernel), List.mem_of_getElem? (i := 940) (by decide +kernel), List.mem_of_getElem? (i := 941) (by decide +kernel)⟩
theorem lw_p27 : lw_okq (⟨"KindredBooks$Line", "valueText", "()LKindredBooks$Text;"⟩, 7) := ⟨⟨by decide +kernel, by decide +kernel⟩, List.mem_of_getElem? (i := 77) (by decide +kernel), List.mem_of_getElem? (i := 948) (by decide +kernel), List.mem_of_getElem? (i := 949) (by decide +kernel)⟩
theorem lw_p28 : lw_okq (⟨"KindredBooks$Kin", "hasKindBetween", "(III)Z"⟩, 13) := ⟨⟨by decide +kernel, by decide +kernel⟩, List.mem_of_getElem? (i := 299) (by decide +kernel), List.mem_of_getElem? (i := 960) (by decide +kernel), List.mem_of_getElem? (i := 961) (by decide +kernel)⟩
theorem lw_p29 : lw_okq (⟨"KindredBooks$Kin", "otherEnd", "(II)I"⟩, 13) := ⟨⟨by decide +kernel, by decide +kernel⟩, List.mem_of_getElem? (i := 299) (by decide +kernel), List.mem_of_getElem? (i := 1014) (by decide +kernel), List.mem_of_getElem? (i := 1015) (by decide +kernel)⟩
theorem lw_p30 : lw_okq (⟨"KindredBooks$Measure", "compareForms", "(LKindredBooks$Line;LKindredBooks$Line;)V"⟩, 6) := ⟨⟨by decide +kernel, by decide +kernel⟩, List.mem_of_getElem? (i := 186) (by decide +kernel), List.mem_of_getElem? (i := 1106) (by decide +kernel), List.mem_of_getElem? (i := 1107) (by decide +kernel)⟩
theorem lw_p31 : lw_okq (⟨"KindredBooks$Measure", "compareLetters", "(LKindredBooks$Text;LKindredBooks$Text;)I"⟩, 6) := ⟨⟨by decide +kernel, by decide +kernel⟩, List.mem_of_getElem? (i := 186) (by decide +kernel), List.mem_of_getElem? (i := 1120) (by decide +kernel), List.mem_of_getElem? (i := 1121) (by decide +kernel)⟩
def lw_privs_2 : List (MethodName × Nat) := [(⟨"KindredBooks", "checkChange", "(I)V"⟩, 12), (⟨"KindredBooks", "kinOf", "(I)LKindredBooks$Kin;"⟩, 12), (⟨"KindredBooks$Kin", "joinEntries", "()V"⟩, 13), (⟨"KindredBooks$Kin", "joinBy", "(LKindredBooks$Change;)V"⟩, 13), (⟨"KindredBooks$Kin", "listGroups", "()V"⟩, 13), (⟨"KindredBooks$Kin", "placeLines", "()V"⟩, 13), (⟨"KindredBooks$Kin", "ownerOf", "(LKindredBooks$Change;)I"⟩, 13), (⟨"KindredBooks$Kin", "putLine", "(II)V"⟩, 13), (⟨"KindredBooks$Kin", "markShown", "(I)V"⟩, 13), (⟨"KindredBooks$Kin", "changeAt", "(I)I"⟩, 13), (⟨"KindredBooks$Kin", "hasValueBetween", "(IILKindredBooks$Line;)Z"⟩, 13), (⟨"KindredBooks$Line", "valueText", "()LKindredBooks$Text;"⟩, 7), (⟨"KindredBooks$Kin", "hasKindBetween", "(III)Z"⟩, 13), (⟨"KindredBooks$Kin", "otherEnd", "(II)I"⟩, 13), (⟨"KindredBooks$Measure", "compareForms", "(LKindredBooks$Line;LKindredBooks$Line;)V"⟩, 6), (⟨"KindredBooks$Measure", "compareLetters", "(LKindredBooks$Text;LKindredBooks$Text;)I"⟩, 6)]
theorem lw_r2 : ∀ q ∈ lw_privs_2, lw_okq q := List.forall_mem_cons.mpr ⟨lw_p16, List.forall_mem_cons.mpr ⟨lw_p17, List.forall_mem_cons.mpr ⟨lw_p18, List.forall_mem_cons.mpr ⟨lw_p19, List.forall_mem_cons.mpr ⟨lw_p20, List.forall_mem_cons.mpr ⟨lw_p21, List.forall_mem_cons.mpr ⟨lw_p22, List.forall_mem_cons.mpr ⟨lw_p23, List.forall_mem_cons.mpr ⟨lw_p24, List.forall_mem_cons.mpr ⟨lw_p25, List.forall_mem_cons.mpr ⟨lw_p26, List.forall_mem_cons.mpr ⟨lw_p27, List.forall_mem_cons.mpr ⟨lw_p28, List.forall_mem_cons.mpr ⟨lw_p29, List.forall_mem_cons.mpr ⟨lw_p30, List.forall_mem_cons.mpr ⟨lw_p31, fun _ h => absurd h List.not_mem_nil⟩⟩⟩⟩⟩⟩⟩⟩⟩⟩⟩⟩⟩⟩⟩⟩
theorem lw_p32 : lw_okq (⟨"KindredBooks$Measure", "findDistance", "(LKindredBooks$Text;IILKindredBooks$Text;)I"⟩, 6) := ⟨⟨by decide +kernel, by decide +kernel⟩, List.mem_of_getElem? (i := 186) (by decide +kernel), List.mem_of_getElem? (i := 1124) (by decide +kernel), List.mem_of_getElem? (i := 1125) (by decide +kernel)⟩
theorem lw_p33 : lw_okq (⟨"KindredBooks$Measure", "fillRow", "(II)V"⟩, 6) := ⟨⟨by decide +kernel, by decide +kernel⟩, List.mem_of_getElem? (i := 186) (by decide +kernel), List.mem_of_getElem? (i := 1130) (by decide +kernel), List.mem_of_getElem? (i := 1131) (by decide +kernel)⟩
theorem lw_p34 : lw_okq (⟨"KindredBooks", "addSuggestion", "(LKindredBooks$Kin;III)V"⟩, 12) := ⟨⟨by decide +kernel, by decide +kernel⟩, List.mem_of_getElem? (i := 44) (by decide +kernel), List.mem_of_getElem? (i := 1150) (by decide +kernel), List.mem_of_getElem? (i := 1151) (by decide +kernel)⟩
theorem lw_p35 : lw_okq (⟨"KindredBooks$Answers", "sink", "(II)V"⟩, 2) := ⟨⟨by decide +kernel, by decide +kernel⟩, List.mem_of_getElem? (i := 248) (by decide +kernel), List.mem_of_getElem? (i := 1183) (by decide +kernel), List.mem_of_getElem? (i := 1184) (by decide +kernel)⟩
theorem lw_p36 : lw_okq (⟨"KindredBooks$Answers", "swap", "(II)V"⟩, 2) := ⟨⟨by decide +kernel, by decide +kernel⟩, List.mem_of_getElem? (i := 248) (by decide +kernel), List.mem_of_getElem? (i := 1187) (by decide +kernel), List.mem_of_getElem? (i := 1188) (by decide +kernel)⟩
theorem lw_p37 : lw_okq (⟨"KindredBooks", "rowOf", "(LKindredBooks$Answers;I)J"⟩, 12) := ⟨⟨by decide +kernel, by decide +kernel⟩, List.mem_of_getElem? (i := 44) (by decide +kernel), List.mem_of_getElem? (i := 1198) (by decide +kernel), List.mem_of_getElem? (i := 1199) (by decide +kernel)⟩
theorem lw_p38 : lw_okq (⟨"KindredBooks$Measure", "rankWords", "(LKindredBooks$Text;ILKindredBooks$Text;)I"⟩, 6) := ⟨⟨by decide +kernel, by decide +kernel⟩, List.mem_of_getElem? (i := 186) (by decide +kernel), List.mem_of_getElem? (i := 1240) (by decide +kernel), List.mem_of_getElem? (i := 1241) (by decide +kernel)⟩
theorem lw_p39 : lw_okq (⟨"KindredBooks$Measure", "rankNear", "(LKindredBooks$Text;IILKindredBooks$Text;)I"⟩, 6) := ⟨⟨by decide +kernel, by decide +kernel⟩, List.mem_of_getElem? (i := 186) (by decide +kernel), List.mem_of_getElem? (i := 1247) (by decide +kernel), List.mem_of_getElem? (i := 1248) (by decide +kernel)⟩
theorem lw_p40 : lw_okq (⟨"KindredBooks$Kin", "isMember", "(II)Z"⟩, 13) := ⟨⟨by decide +kernel, by decide +kernel⟩, List.mem_of_getElem? (i := 299) (by decide +kernel), List.mem_of_getElem? (i := 1272) (by decide +kernel), List.mem_of_getElem? (i := 1273) (by decide +kernel)⟩
theorem lw_p41 : lw_okq (⟨"KindredBooks", "addReturn", "(ILKindredBooks$Text;III)V"⟩, 12) := ⟨⟨by decide +kernel, by decide +kernel⟩, List.mem_of_getElem? (i := 44) (by decide +kernel), List.mem_of_getElem? (i := 1299) (by decide +kernel), List.mem_of_getElem? (i := 1300) (by decide +kernel)⟩
theorem lw_p42 : lw_okq (⟨"KindredBooks$Book", "isCardOf", "(ILKindredBooks$Paper;I)Z"⟩, 9) := ⟨⟨by decide +kernel, by decide +kernel⟩, List.mem_of_getElem? (i := 262) (by decide +kernel), List.mem_of_getElem? (i := 1339) (by decide +kernel), List.mem_of_getElem? (i := 1340) (by decide +kernel)⟩
theorem lw_p43 : lw_okq (⟨"KindredBooks$Book", "countLinesOf", "(I)I"⟩, 9) := ⟨⟨by decide +kernel, by decide +kernel⟩, List.mem_of_getElem? (i := 262) (by decide +kernel), List.mem_of_getElem? (i := 1343) (by decide +kernel), List.mem_of_getElem? (i := 1344) (by decide +kernel)⟩
theorem lw_p44 : lw_okq (⟨"KindredBooks$Book", "isLineOf", "(II)Z"⟩, 9) := ⟨⟨by decide +kernel, by decide +kernel⟩, List.mem_of_getElem? (i := 262) (by decide +kernel), List.mem_of_getElem? (i := 1347) (by decide +kernel), List.mem_of_getElem? (i := 1348) (by decide +kernel)⟩
theorem lw_p45 : lw_okq (⟨"KindredBooks$Book", "countValueOf", "(ILKindredBooks$Line;)I"⟩, 9) := ⟨⟨by decide +kernel, by decide +kernel⟩, List.mem_of_getElem? (i := 262) (by decide +kernel), List.mem_of_getElem? (i := 1352) (by decide +kernel), List.mem_of_getElem? (i := 1353) (by decide +kernel)⟩
theorem lw_p46 : lw_okq (⟨"KindredBooks$Kin", "spreadNumbers", "()Z"⟩, 13) := ⟨⟨by decide +kernel, by decide +kernel⟩, List.mem_of_getElem? (i := 299) (by decide +kernel), List.mem_of_getElem? (i := 1406) (by decide +kernel), List.mem_of_getElem? (i := 1407) (by decide +kernel)⟩
theorem lw_p47 : lw_okq (⟨"KindredBooksModel", "passes", "(ZZZZ)Z"⟩, 14) := ⟨⟨by decide +kernel, by decide +kernel⟩, List.mem_of_getElem? (i := 1450) (by decide +kernel), List.mem_of_getElem? (i := 1659) (by decide +kernel), List.mem_of_getElem? (i := 1660) (by decide +kernel)⟩
def lw_privs_3 : List (MethodName × Nat) := [(⟨"KindredBooks$Measure", "findDistance", "(LKindredBooks$Text;IILKindredBooks$Text;)I"⟩, 6), (⟨"KindredBooks$Measure", "fillRow", "(II)V"⟩, 6), (⟨"KindredBooks", "addSuggestion", "(LKindredBooks$Kin;III)V"⟩, 12), (⟨"KindredBooks$Answers", "sink", "(II)V"⟩, 2), (⟨"KindredBooks$Answers", "swap", "(II)V"⟩, 2), (⟨"KindredBooks", "rowOf", "(LKindredBooks$Answers;I)J"⟩, 12), (⟨"KindredBooks$Measure", "rankWords", "(LKindredBooks$Text;ILKindredBooks$Text;)I"⟩, 6), (⟨"KindredBooks$Measure", "rankNear", "(LKindredBooks$Text;IILKindredBooks$Text;)I"⟩, 6), (⟨"KindredBooks$Kin", "isMember", "(II)Z"⟩, 13), (⟨"KindredBooks", "addReturn", "(ILKindredBooks$Text;III)V"⟩, 12), (⟨"KindredBooks$Book", "isCardOf", "(ILKindredBooks$Paper;I)Z"⟩, 9), (⟨"KindredBooks$Book", "countLinesOf", "(I)I"⟩, 9), (⟨"KindredBooks$Book", "isLineOf", "(II)Z"⟩, 9), (⟨"KindredBooks$Book", "countValueOf", "(ILKindredBooks$Line;)I"⟩, 9), (⟨"KindredBooks$Kin", "spreadNumbers", "()Z"⟩, 13), (⟨"KindredBooksModel", "passes", "(ZZZZ)Z"⟩, 14)]
theorem lw_r3 : ∀ q ∈ lw_privs_3, lw_okq q := List.forall_mem_cons.mpr ⟨lw_p32, List.forall_mem_cons.mpr ⟨lw_p33, List.forall_mem_cons.mpr ⟨lw_p34, List.forall_mem_cons.mpr ⟨lw_p35, List.forall_mem_cons.mpr ⟨lw_p36, List.forall_mem_cons.mpr ⟨lw_p37, List.forall_mem_cons.mpr ⟨lw_p38, List.forall_mem_cons.mpr ⟨lw_p39, List.forall_mem_cons.mpr ⟨lw_p40, List.forall_mem_cons.mpr ⟨lw_p41, List.forall_mem_cons.mpr ⟨lw_p42, List.forall_mem_cons.mpr ⟨lw_p43, List.forall_mem_cons.mpr ⟨lw_p44, List.forall_mem_cons.mpr ⟨lw_p45, List.forall_mem_cons.mpr ⟨lw_p46, List.forall_mem_cons.mpr ⟨lw_p47, fun _ h => absurd h List.not_mem_nil⟩⟩⟩⟩⟩⟩⟩⟩⟩⟩⟩⟩⟩⟩⟩⟩
theorem lw_p48 : lw_okq (⟨"KindredBooksModel", "hasRoom", "(I)Z"⟩, 14) := ⟨⟨by decide +kernel, by decide +kernel⟩, List.mem_of_getElem? (i := 1450) (by decide +kernel), List.mem_of_getElem? (i := 1993) (by decide +kernel), List.mem_of_getElem? (i := 1994) (by decide +kernel)⟩
theorem lw_p49 : lw_okq (⟨"KindredBooksModel", "makes", "(IIIILjava/lang/String;)I"⟩, 14) := ⟨⟨by decide +kernel, by decide +kernel⟩, List.mem_of_getElem? (i := 1450) (by decide +kernel), List.mem_of_getElem? (i := 2007) (by decide +kernel), List.mem_of_getElem? (i := 2008) (by decide +kernel)⟩
theorem lw_p50 : lw_okq (⟨"java/util/ArrayList", "add", "(Ljava/lang/Object;[Ljava/lang/Object;I)V"⟩, 3) := ⟨⟨by decide +kernel, by decide +kernel⟩, List.mem_of_getElem? (i := 1456) (by decide +kernel), List.mem_of_getElem? (i := 2073) (by decide +kernel), List.mem_of_getElem? (i := 2074) (by decide +kernel)⟩
theorem lw_p51 : lw_okq (⟨"java/util/ArrayList", "grow", "()[Ljava/lang/Object;"⟩, 3) := ⟨⟨by decide +kernel, by decide +kernel⟩, List.mem_of_getElem? (i := 1456) (by decide +kernel), List.mem_of_getElem? (i := 2077) (by decide +kernel), List.mem_of_getElem? (i := 2078) (by decide +kernel)⟩
theorem lw_p52 : lw_okq (⟨"java/util/ArrayList", "grow", "(I)[Ljava/lang/Object;"⟩, 3) := ⟨⟨by decide +kernel, by decide +kernel⟩, List.mem_of_getElem? (i := 1456) (by decide +kernel), List.mem_of_getElem? (i := 2081) (by decide +kernel), List.mem_of_getElem? (i := 2082) (by decide +kernel)⟩
theorem lw_p53 : lw_okq (⟨"KindredBooksModel$View", "isTold", "(II)Z"⟩, 6) := ⟨⟨by decide +kernel, by decide +kernel⟩, List.mem_of_getElem? (i := 2128) (by decide +kernel), List.mem_of_getElem? (i := 2138) (by decide +kernel), List.mem_of_getElem? (i := 2139) (by decide +kernel)⟩
theorem lw_p54 : lw_okq (⟨"KindredBooksModel$View", "comes", "(I)V"⟩, 6) := ⟨⟨by decide +kernel, by decide +kernel⟩, List.mem_of_getElem? (i := 2128) (by decide +kernel), List.mem_of_getElem? (i := 2145) (by decide +kernel), List.mem_of_getElem? (i := 2146) (by decide +kernel)⟩
theorem lw_p55 : lw_okq (⟨"KindredBooksModel", "isEarlier", "(II)Z"⟩, 14) := ⟨⟨by decide +kernel, by decide +kernel⟩, List.mem_of_getElem? (i := 1450) (by decide +kernel), List.mem_of_getElem? (i := 2154) (by decide +kernel), List.mem_of_getElem? (i := 2155) (by decide +kernel)⟩
theorem lw_p56 : lw_okq (⟨"java/util/ArrayList", "rangeCheckForAdd", "(I)V"⟩, 3) := ⟨⟨by decide +kernel, by decide +kernel⟩, List.mem_of_getElem? (i := 1456) (by decide +kernel), List.mem_of_getElem? (i := 2187) (by decide +kernel), List.mem_of_getElem? (i := 2188) (by decide +kernel)⟩
theorem lw_p57 : lw_okq (⟨"java/util/ArrayList", "outOfBoundsMsg", "(I)Ljava/lang/String;"⟩, 3) := ⟨⟨by decide +kernel, by decide +kernel⟩, List.mem_of_getElem? (i := 1456) (by decide +kernel), List.mem_of_getElem? (i := 2192) (by decide +kernel), List.mem_of_getElem? (i := 2193) (by decide +kernel)⟩
theorem lw_p58 : lw_okq (⟨"KindredBooksModel$View", "isStanding", "(I)Z"⟩, 6) := ⟨⟨by decide +kernel, by decide +kernel⟩, List.mem_of_getElem? (i := 2128) (by decide +kernel), List.mem_of_getElem? (i := 2205) (by decide +kernel), List.mem_of_getElem? (i := 2206) (by decide +kernel)⟩
theorem lw_p59 : lw_okq (⟨"KindredBooksModel", "isChange", "(I)Z"⟩, 14) := ⟨⟨by decide +kernel, by decide +kernel⟩, List.mem_of_getElem? (i := 1450) (by decide +kernel), List.mem_of_getElem? (i := 2213) (by decide +kernel), List.mem_of_getElem? (i := 2214) (by decide +kernel)⟩
theorem lw_p60 : lw_okq (⟨"KindredBooksModel$View", "joins", "(I)V"⟩, 6) := ⟨⟨by decide +kernel, by decide +kernel⟩, List.mem_of_getElem? (i := 2128) (by decide +kernel), List.mem_of_getElem? (i := 2217) (by decide +kernel), List.mem_of_getElem? (i := 2218) (by decide +kernel)⟩
theorem lw_p61 : lw_okq (⟨"KindredBooksModel", "pair", "(IIII)I"⟩, 14) := ⟨⟨by decide +kernel, by decide +kernel⟩, List.mem_of_getElem? (i := 1450) (by decide +kernel), List.mem_of_getElem? (i := 2287) (by decide +kernel), List.mem_of_getElem? (i := 2288) (by decide +kernel)⟩
theorem lw_p62 : lw_okq (⟨"KindredBooksModel", "asked", "(III)LKindredBooksModel$View;"⟩, 14) := ⟨⟨by decide +kernel, by decide +kernel⟩, List.mem_of_getElem? (i := 1450) (by decide +kernel), List.mem_of_getElem? (i := 2361) (by decide +kernel), List.mem_of_getElem? (i := 2362) (by decide +kernel)⟩
theorem lw_p63 : lw_okq (⟨"KindredBooksModel", "far", "(LKindredBooksModel$View;I)[I"⟩, 14) := ⟨⟨by decide +kernel, by decide +kernel⟩, List.mem_of_getElem? (i := 1450) (by decide +kernel), List.mem_of_getElem? (i := 2377) (by decide +kernel), List.mem_of_getElem? (i := 2378) (by decide +kernel)⟩
def lw_privs_4 : List (MethodName × Nat) := [(⟨"KindredBooksModel", "hasRoom", "(I)Z"⟩, 14), (⟨"KindredBooksModel", "makes", "(IIIILjava/lang/String;)I"⟩, 14), (⟨"java/util/ArrayList", "add", "(Ljava/lang/Object;[Ljava/lang/Object;I)V"⟩, 3), (⟨"java/util/ArrayList", "grow", "()[Ljava/lang/Object;"⟩, 3), (⟨"java/util/ArrayList", "grow", "(I)[Ljava/lang/Object;"⟩, 3), (⟨"KindredBooksModel$View", "isTold", "(II)Z"⟩, 6), (⟨"KindredBooksModel$View", "comes", "(I)V"⟩, 6), (⟨"KindredBooksModel", "isEarlier", "(II)Z"⟩, 14), (⟨"java/util/ArrayList", "rangeCheckForAdd", "(I)V"⟩, 3), (⟨"java/util/ArrayList", "outOfBoundsMsg", "(I)Ljava/lang/String;"⟩, 3), (⟨"KindredBooksModel$View", "isStanding", "(I)Z"⟩, 6), (⟨"KindredBooksModel", "isChange", "(I)Z"⟩, 14), (⟨"KindredBooksModel$View", "joins", "(I)V"⟩, 6), (⟨"KindredBooksModel", "pair", "(IIII)I"⟩, 14), (⟨"KindredBooksModel", "asked", "(III)LKindredBooksModel$View;"⟩, 14), (⟨"KindredBooksModel", "far", "(LKindredBooksModel$View;I)[I"⟩, 14)]
theorem lw_r4 : ∀ q ∈ lw_privs_4, lw_okq q := List.forall_mem_cons.mpr ⟨lw_p48, List.forall_mem_cons.mpr ⟨lw_p49, List.forall_mem_cons.mpr ⟨lw_p50, List.forall_mem_cons.mpr ⟨lw_p51, List.forall_mem_cons.mpr ⟨lw_p52, List.forall_mem_cons.mpr ⟨lw_p53, List.forall_mem_cons.mpr ⟨lw_p54, List.forall_mem_cons.mpr ⟨lw_p55, List.forall_mem_cons.mpr ⟨lw_p56, List.forall_mem_cons.mpr ⟨lw_p57, List.forall_mem_cons.mpr ⟨lw_p58, List.forall_mem_cons.mpr ⟨lw_p59, List.forall_mem_cons.mpr ⟨lw_p60, List.forall_mem_cons.mpr ⟨lw_p61, List.forall_mem_cons.mpr ⟨lw_p62, List.forall_mem_cons.mpr ⟨lw_p63, fun _ h => absurd h List.not_mem_nil⟩⟩⟩⟩⟩⟩⟩⟩⟩⟩⟩⟩⟩⟩⟩⟩
theorem lw_p64 : lw_okq (⟨"KindredBooksModel", "nearer", "(LKindredBooksModel$View;[II)I"⟩, 14) := ⟨⟨by decide +kernel, by decide +kernel⟩, List.mem_of_getElem? (i := 1450) (by decide +kernel), List.mem_of_getElem? (i := 2381) (by decide +kernel), List.mem_of_getElem? (i := 2382) (by decide +kernel)⟩
theorem lw_p65 : lw_okq (⟨"KindredBooksModel", "askedKind", "(III)LKindredBooksModel$View;"⟩, 14) := ⟨⟨by decide +kernel, by decide +kernel⟩, List.mem_of_getElem? (i := 1450) (by decide +kernel), List.mem_of_getElem? (i := 2394) (by decide +kernel), List.mem_of_getElem? (i := 2395) (by decide +kernel)⟩
theorem lw_p66 : lw_okq (⟨"KindredBooksModel", "value", "(ILjava/lang/String;)Ljava/lang/String;"⟩, 14) := ⟨⟨by decide +kernel, by decide +kernel⟩, List.mem_of_getElem? (i := 1450) (by decide +kernel), List.mem_of_getElem? (i := 2410) (by decide +kernel), List.mem_of_getElem? (i := 2411) (by decide +kernel)⟩
theorem lw_p67 : lw_okq (⟨"KindredBooksModel", "call", "(Ljava/lang/String;)Ljava/lang/String;"⟩, 14) := ⟨⟨by decide +kernel, by decide +kernel⟩, List.mem_of_getElem? (i := 1450) (by decide +kernel), List.mem_of_getElem? (i := 2429) (by decide +kernel), List.mem_of_getElem? (i := 2430) (by decide +kernel)⟩
theorem lw_p68 : lw_okq (⟨"KindredBooksModel", "measured", "(LKindredBooksModel$View;II)[I"⟩, 14) := ⟨⟨by decide +kernel, by decide +kernel⟩, List.mem_of_getElem? (i := 1450) (by decide +kernel), List.mem_of_getElem? (i := 2571) (by decide +kernel), List.mem_of_getElem? (i := 2572) (by decide +kernel)⟩
theorem lw_p69 : lw_okq (⟨"KindredBooksModel", "membersOf", "(LKindredBooksModel$View;I)Ljava/util/List;"⟩, 14) := ⟨⟨by decide +kernel, by decide +kernel⟩, List.mem_of_getElem? (i := 1450) (by decide +kernel), List.mem_of_getElem? (i := 2711) (by decide +kernel), List.mem_of_getElem? (i := 2712) (by decide +kernel)⟩
theorem lw_p70 : lw_okq (⟨"KindredBooksModel", "reads", "()V"⟩, 14) := ⟨⟨by decide +kernel, by decide +kernel⟩, List.mem_of_getElem? (i := 1450) (by decide +kernel), List.mem_of_getElem? (i := 2739) (by decide +kernel), List.mem_of_getElem? (i := 2740) (by decide +kernel)⟩
theorem lw_p71 : lw_okq (⟨"KindredBooksModel", "readsLine", "(I)I"⟩, 14) := ⟨⟨by decide +kernel, by decide +kernel⟩, List.mem_of_getElem? (i := 1450) (by decide +kernel), List.mem_of_getElem? (i := 2743) (by decide +kernel), List.mem_of_getElem? (i := 2744) (by decide +kernel)⟩
theorem lw_p72 : lw_okq (⟨"KindredBooksModel", "fails", "(II)V"⟩, 14) := ⟨⟨by decide +kernel, by decide +kernel⟩, List.mem_of_getElem? (i := 1450) (by decide +kernel), List.mem_of_getElem? (i := 2752) (by decide +kernel), List.mem_of_getElem? (i := 2753) (by decide +kernel)⟩
theorem lw_p73 : lw_okq (⟨"KindredBooksModel", "isKnown", "(II)Z"⟩, 14) := ⟨⟨by decide +kernel, by decide +kernel⟩, List.mem_of_getElem? (i := 1450) (by decide +kernel), List.mem_of_getElem? (i := 2777) (by decide +kernel), List.mem_of_getElem? (i := 2778) (by decide +kernel)⟩
theorem lw_p74 : lw_okq (⟨"KindredBooksModel", "isCard", "(LKindredBooksModel$View;II)Z"⟩, 14) := ⟨⟨by decide +kernel, by decide +kernel⟩, List.mem_of_getElem? (i := 1450) (by decide +kernel), List.mem_of_getElem? (i := 2781) (by decide +kernel), List.mem_of_getElem? (i := 2782) (by decide +kernel)⟩
theorem lw_p75 : lw_okq (⟨"KindredBooksModel", "often", "(IILjava/lang/String;)I"⟩, 14) := ⟨⟨by decide +kernel, by decide +kernel⟩, List.mem_of_getElem? (i := 1450) (by decide +kernel), List.mem_of_getElem? (i := 2786) (by decide +kernel), List.mem_of_getElem? (i := 2787) (by decide +kernel)⟩
theorem lw_p76 : lw_okq (⟨"KindredBooksModel", "oftenOf", "(LKindredBooksModel$View;IILjava/lang/String;)I"⟩, 14) := ⟨⟨by decide +kernel, by decide +kernel⟩, List.mem_of_getElem? (i := 1450) (by decide +kernel), List.mem_of_getElem? (i := 2790) (by decide +kernel), List.mem_of_getElem? (i := 2791) (by decide +kernel)⟩
theorem lw_p77 : lw_okq (⟨"KindredBooksModel", "failsOfGroups", "(LKindredBooksModel$View;)I"⟩, 14) := ⟨⟨by decide +kernel, by decide +kernel⟩, List.mem_of_getElem? (i := 1450) (by decide +kernel), List.mem_of_getElem? (i := 2808) (by decide +kernel), List.mem_of_getElem? (i := 2809) (by decide +kernel)⟩
theorem lw_p78 : lw_okq (⟨"KindredBooksModel", "failsOfPairs", "(LKindredBooksModel$View;)I"⟩, 14) := ⟨⟨by decide +kernel, by decide +kernel⟩, List.mem_of_getElem? (i := 1450) (by decide +kernel), List.mem_of_getElem? (i := 2812) (by decide +kernel), List.mem_of_getElem? (i := 2813) (by decide +kernel)⟩
def lw_privs_5 : List (MethodName × Nat) := [(⟨"KindredBooksModel", "nearer", "(LKindredBooksModel$View;[II)I"⟩, 14), (⟨"KindredBooksModel", "askedKind", "(III)LKindredBooksModel$View;"⟩, 14), (⟨"KindredBooksModel", "value", "(ILjava/lang/String;)Ljava/lang/String;"⟩, 14), (⟨"KindredBooksModel", "call", "(Ljava/lang/String;)Ljava/lang/String;"⟩, 14), (⟨"KindredBooksModel", "measured", "(LKindredBooksModel$View;II)[I"⟩, 14), (⟨"KindredBooksModel", "membersOf", "(LKindredBooksModel$View;I)Ljava/util/List;"⟩, 14), (⟨"KindredBooksModel", "reads", "()V"⟩, 14), (⟨"KindredBooksModel", "readsLine", "(I)I"⟩, 14), (⟨"KindredBooksModel", "fails", "(II)V"⟩, 14), (⟨"KindredBooksModel", "isKnown", "(II)Z"⟩, 14), (⟨"KindredBooksModel", "isCard", "(LKindredBooksModel$View;II)Z"⟩, 14), (⟨"KindredBooksModel", "often", "(IILjava/lang/String;)I"⟩, 14), (⟨"KindredBooksModel", "oftenOf", "(LKindredBooksModel$View;IILjava/lang/String;)I"⟩, 14), (⟨"KindredBooksModel", "failsOfGroups", "(LKindredBooksModel$View;)I"⟩, 14), (⟨"KindredBooksModel", "failsOfPairs", "(LKindredBooksModel$View;)I"⟩, 14)]
theorem lw_r5 : ∀ q ∈ lw_privs_5, lw_okq q := List.forall_mem_cons.mpr ⟨lw_p64, List.forall_mem_cons.mpr ⟨lw_p65, List.forall_mem_cons.mpr ⟨lw_p66, List.forall_mem_cons.mpr ⟨lw_p67, List.forall_mem_cons.mpr ⟨lw_p68, List.forall_mem_cons.mpr ⟨lw_p69, List.forall_mem_cons.mpr ⟨lw_p70, List.forall_mem_cons.mpr ⟨lw_p71, List.forall_mem_cons.mpr ⟨lw_p72, List.forall_mem_cons.mpr ⟨lw_p73, List.forall_mem_cons.mpr ⟨lw_p74, List.forall_mem_cons.mpr ⟨lw_p75, List.forall_mem_cons.mpr ⟨lw_p76, List.forall_mem_cons.mpr ⟨lw_p77, List.forall_mem_cons.mpr ⟨lw_p78, fun _ h => absurd h List.not_mem_nil⟩⟩⟩⟩⟩⟩⟩⟩⟩⟩⟩⟩⟩⟩⟩
def lw_privs : List (MethodName × Nat) := lw_privs_1 ++ (lw_privs_2 ++ (lw_privs_3 ++ (lw_privs_4 ++ (lw_privs_5))))
def lw_tbl : List Cond := k2_sels lw_privs ++ tables_1
theorem lw_privs_ok : ∀ q ∈ lw_privs, lw_okq q := by
  show ∀ q ∈ lw_privs_1 ++ (lw_privs_2 ++ (lw_privs_3 ++ (lw_privs_4 ++ (lw_privs_5)))), lw_okq q
  exact List.forall_mem_append.mpr ⟨lw_r1, List.forall_mem_append.mpr ⟨lw_r2, List.forall_mem_append.mpr ⟨lw_r3, List.forall_mem_append.mpr ⟨lw_r4, lw_r5⟩⟩⟩⟩
/-- the streams that the claim lets the run draw from -/
abbrev lw_cs : List Choice := [Jvm.Choice.named "NaN.bits"]
theorem lw_bits : nanBits ∈ lw_cs := by first | decide | exact List.mem_cons_self | simp [lw_cs, nanBits]
-- ===== end of PART A; then your names; then what follows =====

/-! ONE LIST OF WORDS for every method: what the tables say that holds at any call -/
def W0 : List Cond := lw_tbl.filter goodWord
theorem W0_of {w : Cond} (h : w ∈ lw_tbl) (g : goodWord w = true) : w ∈ W0 := List.mem_filter.mpr ⟨h, g⟩
theorem W0_good {w : Cond} (h : w ∈ W0) : goodWord w = true := (List.mem_filter.mp h).2
theorem W0_tbl {w : Cond} (h : w ∈ W0) : w ∈ lw_tbl := (List.mem_filter.mp h).1
/-- a method's words: its own code, then the one list -/
def wz (y : MethodName) (c : ByteArray) (n : Nat) (ret : Option FieldType) : List Cond := .code y c n ret :: W0
theorem wz_hw {args : Array Value} {s : State} {y : MethodName} {c : ByteArray} {n : Nat} {ret : Option FieldType} (h : ∀ w ∈ wz y c n ret, w.before args s = true) : ∀ w ∈ W0, w.before args s = true := fun w hw => h w (List.mem_cons_of_mem _ hw)
theorem wz_in {y : MethodName} {c : ByteArray} {n : Nat} {ret : Option FieldType} (h : Cond.code y c n ret ∈ W0) : GoodIn W0 (wz y c n ret) := fun w hw => by
  rcases List.mem_cons.mp hw with rfl | h1
  · exact ⟨h, good_of_word (W0_good h)⟩
  · exact ⟨h1, good_of_word (W0_good h1)⟩
theorem mw_358 : (Jvm.Cond.laysFinal "KindredBooks" "KindredBooks" "text" "LKindredBooks$Text;") ∈ W0 := W0_of (List.mem_append_right _ (List.mem_of_getElem? (i := 358) (by decide +kernel))) rfl
theorem mw_360 : (Jvm.Cond.laysFinal "KindredBooks" "KindredBooks" "page" "LKindredBooks$Text;") ∈ W0 := W0_of (List.mem_append_right _ (List.mem_of_getElem? (i := 360) (by decide +kernel))) rfl
theorem mw_362 : (Jvm.Cond.laysFinal "KindredBooks" "KindredBooks" "sought" "LKindredBooks$Text;") ∈ W0 := W0_of (List.mem_append_right _ (List.mem_of_getElem? (i := 362) (by decide +kernel))) rfl
theorem mw_364 : (Jvm.Cond.laysFinal "KindredBooks" "KindredBooks" "ledger" "LKindredBooks$Ledger;") ∈ W0 := W0_of (List.mem_append_right _ (List.mem_of_getElem? (i := 364) (by decide +kernel))) rfl
theorem mw_366 : (Jvm.Cond.laysFinal "KindredBooks" "KindredBooks" "books" "[LKindredBooks$Book;") ∈ W0 := W0_of (List.mem_append_right _ (List.mem_of_getElem? (i := 366) (by decide +kernel))) rfl
theorem mw_368 : (Jvm.Cond.laysFinal "KindredBooks" "KindredBooks" "kins" "[LKindredBooks$Kin;") ∈ W0 := W0_of (List.mem_append_right _ (List.mem_of_getElem? (i := 368) (by decide +kernel))) rfl
theorem mw_370 : (Jvm.Cond.laysFinal "KindredBooks" "KindredBooks" "measure" "LKindredBooks$Measure;") ∈ W0 := W0_of (List.mem_append_right _ (List.mem_of_getElem? (i := 370) (by decide +kernel))) rfl
theorem mw_372 : (Jvm.Cond.laysFinal "KindredBooks" "KindredBooks" "paper" "LKindredBooks$Paper;") ∈ W0 := W0_of (List.mem_append_right _ (List.mem_of_getElem? (i := 372) (by decide +kernel))) rfl
theorem mw_374 : (Jvm.Cond.laysFinal "KindredBooks" "KindredBooks" "suggestions" "LKindredBooks$Answers;") ∈ W0 := W0_of (List.mem_append_right _ (List.mem_of_getElem? (i := 374) (by decide +kernel))) rfl
theorem mw_376 : (Jvm.Cond.laysFinal "KindredBooks" "KindredBooks" "finds" "LKindredBooks$Answers;") ∈ W0 := W0_of (List.mem_append_right _ (List.mem_of_getElem? (i := 376) (by decide +kernel))) rfl
theorem mw_378 : (Jvm.Cond.laysFinal "KindredBooks" "KindredBooks" "returns" "LKindredBooks$Answers;") ∈ W0 := W0_of (List.mem_append_right _ (List.mem_of_getElem? (i := 378) (by decide +kernel))) rfl
theorem mw_380 : (Jvm.Cond.lays "KindredBooks" "KindredBooks" "country" "I") ∈ W0 := W0_of (List.mem_append_right _ (List.mem_of_getElem? (i := 380) (by decide +kernel))) rfl
def T_zk0 : u_T := fun k => match k with
  | 0 => ("KindredBooks", "text", "LKindredBooks$Text;", true)
  | 1 => ("KindredBooks", "page", "LKindredBooks$Text;", true)
  | 2 => ("KindredBooks", "sought", "LKindredBooks$Text;", true)
  | 3 => ("KindredBooks", "ledger", "LKindredBooks$Ledger;", true)
  | 4 => ("KindredBooks", "books", "[LKindredBooks$Book;", true)
  | 5 => ("KindredBooks", "kins", "[LKindredBooks$Kin;", true)
  | 6 => ("KindredBooks", "measure", "LKindredBooks$Measure;", true)
  | 7 => ("KindredBooks", "paper", "LKindredBooks$Paper;", true)
  | 8 => ("KindredBooks", "suggestions", "LKindredBooks$Answers;", true)
  | 9 => ("KindredBooks", "finds", "LKindredBooks$Answers;", true)
  | 10 => ("KindredBooks", "returns", "LKindredBooks$Answers;", true)
  | _ => ("KindredBooks", "country", "I", false)
def ty_zk0 : Nat → FieldType := fun k => match k with
  | 0 => (.object "KindredBooks$Text")
  | 1 => (.object "KindredBooks$Text")
  | 2 => (.object "KindredBooks$Text")
  | 3 => (.object "KindredBooks$Ledger")
  | 4 => (.array (.object "KindredBooks$Book"))
  | 5 => (.array (.object "KindredBooks$Kin"))
  | 6 => (.object "KindredBooks$Measure")
  | 7 => (.object "KindredBooks$Paper")
  | 8 => (.object "KindredBooks$Answers")
  | 9 => (.object "KindredBooks$Answers")
  | 10 => (.object "KindredBooks$Answers")
  | _ => .int
theorem nm_zk0 : ∀ a, a < 12 → ∀ b, b < 12 → a ≠ b → (T_zk0 a).2.1 ≠ (T_zk0 b).2.1 := by decide +kernel
theorem ok_zk0 : ∀ k, k < 12 → parseFieldDescriptor (T_zk0 k).2.2.1 = some (ty_zk0 k) := by decide +kernel
theorem in_zk0 : ∀ w ∈ u_ws "KindredBooks" T_zk0 12, w ∈ W0 := by
  intro w hw
  obtain ⟨k, hk, rfl⟩ := List.mem_map.mp hw
  match k, List.mem_range.mp hk with
  | 0, _ => exact mw_358
  | 1, _ => exact mw_360
  | 2, _ => exact mw_362
  | 3, _ => exact mw_364
  | 4, _ => exact mw_366
  | 5, _ => exact mw_368
  | 6, _ => exact mw_370
  | 7, _ => exact mw_372
  | 8, _ => exact mw_374
  | 9, _ => exact mw_376
  | 10, _ => exact mw_378
  | 11, _ => exact mw_380
  | k + 12, h => exact absurd h (by omega)
theorem mw_64 : (Jvm.Cond.laysFinal "KindredBooks$Text" "KindredBooks$Text" "bytes" "[B") ∈ W0 := W0_of (List.mem_append_right _ (List.mem_of_getElem? (i := 64) (by decide +kernel))) rfl
theorem mw_66 : (Jvm.Cond.lays "KindredBooks$Text" "KindredBooks$Text" "length" "I") ∈ W0 := W0_of (List.mem_append_right _ (List.mem_of_getElem? (i := 66) (by decide +kernel))) rfl
def T_zk1 : u_T := fun k => match k with
  | 0 => ("KindredBooks$Text", "bytes", "[B", true)
  | _ => ("KindredBooks$Text", "length", "I", false)
def ty_zk1 : Nat → FieldType := fun k => match k with
  | 0 => (.array .byte)
  | _ => .int
theorem nm_zk1 : ∀ a, a < 2 → ∀ b, b < 2 → a ≠ b → (T_zk1 a).2.1 ≠ (T_zk1 b).2.1 := by decide +kernel
theorem ok_zk1 : ∀ k, k < 2 → parseFieldDescriptor (T_zk1 k).2.2.1 = some (ty_zk1 k) := by decide +kernel
theorem in_zk1 : ∀ w ∈ u_ws "KindredBooks$Text" T_zk1 2, w ∈ W0 := by
  intro w hw
  obtain ⟨k, hk, rfl⟩ := List.mem_map.mp hw
  match k, List.mem_range.mp hk with
  | 0, _ => exact mw_64
  | 1, _ => exact mw_66
  | k + 2, h => exact absurd h (by omega)
theorem mw_172 : (Jvm.Cond.laysFinal "KindredBooks$Ledger" "KindredBooks$Ledger" "blank" "LKindredBooks$Line;") ∈ W0 := W0_of (List.mem_append_right _ (List.mem_of_getElem? (i := 172) (by decide +kernel))) rfl
theorem mw_174 : (Jvm.Cond.laysFinal "KindredBooks$Ledger" "KindredBooks$Ledger" "nothing" "LKindredBooks$Change;") ∈ W0 := W0_of (List.mem_append_right _ (List.mem_of_getElem? (i := 174) (by decide +kernel))) rfl
theorem mw_176 : (Jvm.Cond.laysFinal "KindredBooks$Ledger" "KindredBooks$Ledger" "rows" "[LKindredBooks$Change;") ∈ W0 := W0_of (List.mem_append_right _ (List.mem_of_getElem? (i := 176) (by decide +kernel))) rfl
theorem mw_178 : (Jvm.Cond.lays "KindredBooks$Ledger" "KindredBooks$Ledger" "size" "I") ∈ W0 := W0_of (List.mem_append_right _ (List.mem_of_getElem? (i := 178) (by decide +kernel))) rfl
def T_zk2 : u_T := fun k => match k with
  | 0 => ("KindredBooks$Ledger", "blank", "LKindredBooks$Line;", true)
  | 1 => ("KindredBooks$Ledger", "nothing", "LKindredBooks$Change;", true)
  | 2 => ("KindredBooks$Ledger", "rows", "[LKindredBooks$Change;", true)
  | _ => ("KindredBooks$Ledger", "size", "I", false)
def ty_zk2 : Nat → FieldType := fun k => match k with
  | 0 => (.object "KindredBooks$Line")
  | 1 => (.object "KindredBooks$Change")
  | 2 => (.array (.object "KindredBooks$Change"))
  | _ => .int
theorem nm_zk2 : ∀ a, a < 4 → ∀ b, b < 4 → a ≠ b → (T_zk2 a).2.1 ≠ (T_zk2 b).2.1 := by decide +kernel
theorem ok_zk2 : ∀ k, k < 4 → parseFieldDescriptor (T_zk2 k).2.2.1 = some (ty_zk2 k) := by decide +kernel
theorem in_zk2 : ∀ w ∈ u_ws "KindredBooks$Ledger" T_zk2 4, w ∈ W0 := by
  intro w hw
  obtain ⟨k, hk, rfl⟩ := List.mem_map.mp hw
  match k, List.mem_range.mp hk with
  | 0, _ => exact mw_172
  | 1, _ => exact mw_174
  | 2, _ => exact mw_176
  | 3, _ => exact mw_178
  | k + 4, h => exact absurd h (by omega)
theorem mw_146 : (Jvm.Cond.laysFinal "KindredBooks$Change" "KindredBooks$Change" "number" "I") ∈ W0 := W0_of (List.mem_append_right _ (List.mem_of_getElem? (i := 146) (by decide +kernel))) rfl
theorem mw_148 : (Jvm.Cond.laysFinal "KindredBooks$Change" "KindredBooks$Change" "kind" "I") ∈ W0 := W0_of (List.mem_append_right _ (List.mem_of_getElem? (i := 148) (by decide +kernel))) rfl
theorem mw_150 : (Jvm.Cond.laysFinal "KindredBooks$Change" "KindredBooks$Change" "hand" "I") ∈ W0 := W0_of (List.mem_append_right _ (List.mem_of_getElem? (i := 150) (by decide +kernel))) rfl
theorem mw_152 : (Jvm.Cond.laysFinal "KindredBooks$Change" "KindredBooks$Change" "count" "I") ∈ W0 := W0_of (List.mem_append_right _ (List.mem_of_getElem? (i := 152) (by decide +kernel))) rfl
theorem mw_154 : (Jvm.Cond.laysFinal "KindredBooks$Change" "KindredBooks$Change" "first" "I") ∈ W0 := W0_of (List.mem_append_right _ (List.mem_of_getElem? (i := 154) (by decide +kernel))) rfl
theorem mw_156 : (Jvm.Cond.laysFinal "KindredBooks$Change" "KindredBooks$Change" "second" "I") ∈ W0 := W0_of (List.mem_append_right _ (List.mem_of_getElem? (i := 156) (by decide +kernel))) rfl
theorem mw_158 : (Jvm.Cond.laysFinal "KindredBooks$Change" "KindredBooks$Change" "line" "LKindredBooks$Line;") ∈ W0 := W0_of (List.mem_append_right _ (List.mem_of_getElem? (i := 158) (by decide +kernel))) rfl
def T_zk3 : u_T := fun k => match k with
  | 0 => ("KindredBooks$Change", "number", "I", true)
  | 1 => ("KindredBooks$Change", "kind", "I", true)
  | 2 => ("KindredBooks$Change", "hand", "I", true)
  | 3 => ("KindredBooks$Change", "count", "I", true)
  | 4 => ("KindredBooks$Change", "first", "I", true)
  | 5 => ("KindredBooks$Change", "second", "I", true)
  | _ => ("KindredBooks$Change", "line", "LKindredBooks$Line;", true)
def ty_zk3 : Nat → FieldType := fun k => match k with
  | 0 => .int
  | 1 => .int
  | 2 => .int
  | 3 => .int
  | 4 => .int
  | 5 => .int
  | _ => (.object "KindredBooks$Line")
theorem nm_zk3 : ∀ a, a < 7 → ∀ b, b < 7 → a ≠ b → (T_zk3 a).2.1 ≠ (T_zk3 b).2.1 := by decide +kernel
theorem ok_zk3 : ∀ k, k < 7 → parseFieldDescriptor (T_zk3 k).2.2.1 = some (ty_zk3 k) := by decide +kernel
theorem in_zk3 : ∀ w ∈ u_ws "KindredBooks$Change" T_zk3 7, w ∈ W0 := by
  intro w hw
  obtain ⟨k, hk, rfl⟩ := List.mem_map.mp hw
  match k, List.mem_range.mp hk with
  | 0, _ => exact mw_146
  | 1, _ => exact mw_148
  | 2, _ => exact mw_150
  | 3, _ => exact mw_152
  | 4, _ => exact mw_154
  | 5, _ => exact mw_156
  | 6, _ => exact mw_158
  | k + 7, h => exact absurd h (by omega)
theorem mw_99 : (Jvm.Cond.lays "KindredBooks$Line" "KindredBooks$Line" "kind" "I") ∈ W0 := W0_of (List.mem_append_right _ (List.mem_of_getElem? (i := 99) (by decide +kernel))) rfl
theorem mw_101 : (Jvm.Cond.laysFinal "KindredBooks$Line" "KindredBooks$Line" "text" "LKindredBooks$Text;") ∈ W0 := W0_of (List.mem_append_right _ (List.mem_of_getElem? (i := 101) (by decide +kernel))) rfl
theorem mw_103 : (Jvm.Cond.laysFinal "KindredBooks$Line" "KindredBooks$Line" "plain" "LKindredBooks$Text;") ∈ W0 := W0_of (List.mem_append_right _ (List.mem_of_getElem? (i := 103) (by decide +kernel))) rfl
theorem mw_105 : (Jvm.Cond.laysFinal "KindredBooks$Line" "KindredBooks$Line" "call" "LKindredBooks$Text;") ∈ W0 := W0_of (List.mem_append_right _ (List.mem_of_getElem? (i := 105) (by decide +kernel))) rfl
theorem mw_107 : (Jvm.Cond.laysFinal "KindredBooks$Line" "KindredBooks$Line" "sound" "LKindredBooks$Text;") ∈ W0 := W0_of (List.mem_append_right _ (List.mem_of_getElem? (i := 107) (by decide +kernel))) rfl
theorem mw_109 : (Jvm.Cond.laysFinal "KindredBooks$Line" "KindredBooks$Line" "pieces" "[I") ∈ W0 := W0_of (List.mem_append_right _ (List.mem_of_getElem? (i := 109) (by decide +kernel))) rfl
theorem mw_111 : (Jvm.Cond.lays "KindredBooks$Line" "KindredBooks$Line" "pieceCount" "I") ∈ W0 := W0_of (List.mem_append_right _ (List.mem_of_getElem? (i := 111) (by decide +kernel))) rfl
def T_zk4 : u_T := fun k => match k with
  | 0 => ("KindredBooks$Line", "kind", "I", false)
  | 1 => ("KindredBooks$Line", "text", "LKindredBooks$Text;", true)
  | 2 => ("KindredBooks$Line", "plain", "LKindredBooks$Text;", true)
  | 3 => ("KindredBooks$Line", "call", "LKindredBooks$Text;", true)
  | 4 => ("KindredBooks$Line", "sound", "LKindredBooks$Text;", true)
  | 5 => ("KindredBooks$Line", "pieces", "[I", true)
  | _ => ("KindredBooks$Line", "pieceCount", "I", false)
def ty_zk4 : Nat → FieldType := fun k => match k with
  | 0 => .int
  | 1 => (.object "KindredBooks$Text")
  | 2 => (.object "KindredBooks$Text")
  | 3 => (.object "KindredBooks$Text")
  | 4 => (.object "KindredBooks$Text")
  | 5 => (.array .int)
  | _ => .int
theorem nm_zk4 : ∀ a, a < 7 → ∀ b, b < 7 → a ≠ b → (T_zk4 a).2.1 ≠ (T_zk4 b).2.1 := by decide +kernel
theorem ok_zk4 : ∀ k, k < 7 → parseFieldDescriptor (T_zk4 k).2.2.1 = some (ty_zk4 k) := by decide +kernel
theorem in_zk4 : ∀ w ∈ u_ws "KindredBooks$Line" T_zk4 7, w ∈ W0 := by
  intro w hw
  obtain ⟨k, hk, rfl⟩ := List.mem_map.mp hw
  match k, List.mem_range.mp hk with
  | 0, _ => exact mw_99
  | 1, _ => exact mw_101
  | 2, _ => exact mw_103
  | 3, _ => exact mw_105
  | 4, _ => exact mw_107
  | 5, _ => exact mw_109
  | 6, _ => exact mw_111
  | k + 7, h => exact absurd h (by omega)
theorem mw_280 : (Jvm.Cond.laysFinal "KindredBooks$Book" "KindredBooks$Book" "hand" "I") ∈ W0 := W0_of (List.mem_append_right _ (List.mem_of_getElem? (i := 280) (by decide +kernel))) rfl
theorem mw_282 : (Jvm.Cond.laysFinal "KindredBooks$Book" "KindredBooks$Book" "ledger" "LKindredBooks$Ledger;") ∈ W0 := W0_of (List.mem_append_right _ (List.mem_of_getElem? (i := 282) (by decide +kernel))) rfl
theorem mw_284 : (Jvm.Cond.laysFinal "KindredBooks$Book" "KindredBooks$Book" "knows" "[Z") ∈ W0 := W0_of (List.mem_append_right _ (List.mem_of_getElem? (i := 284) (by decide +kernel))) rfl
theorem mw_286 : (Jvm.Cond.laysFinal "KindredBooks$Book" "KindredBooks$Book" "counting" "[Z") ∈ W0 := W0_of (List.mem_append_right _ (List.mem_of_getElem? (i := 286) (by decide +kernel))) rfl
theorem mw_288 : (Jvm.Cond.laysFinal "KindredBooks$Book" "KindredBooks$Book" "standing" "[Z") ∈ W0 := W0_of (List.mem_append_right _ (List.mem_of_getElem? (i := 288) (by decide +kernel))) rfl
theorem mw_290 : (Jvm.Cond.laysFinal "KindredBooks$Book" "KindredBooks$Book" "order" "[LKindredBooks$Change;") ∈ W0 := W0_of (List.mem_append_right _ (List.mem_of_getElem? (i := 290) (by decide +kernel))) rfl
theorem mw_292 : (Jvm.Cond.lays "KindredBooks$Book" "KindredBooks$Book" "size" "I") ∈ W0 := W0_of (List.mem_append_right _ (List.mem_of_getElem? (i := 292) (by decide +kernel))) rfl
theorem mw_294 : (Jvm.Cond.lays "KindredBooks$Book" "KindredBooks$Book" "greatest" "I") ∈ W0 := W0_of (List.mem_append_right _ (List.mem_of_getElem? (i := 294) (by decide +kernel))) rfl
theorem mw_296 : (Jvm.Cond.lays "KindredBooks$Book" "KindredBooks$Book" "version" "I") ∈ W0 := W0_of (List.mem_append_right _ (List.mem_of_getElem? (i := 296) (by decide +kernel))) rfl
def T_zk5 : u_T := fun k => match k with
  | 0 => ("KindredBooks$Book", "hand", "I", true)
  | 1 => ("KindredBooks$Book", "ledger", "LKindredBooks$Ledger;", true)
  | 2 => ("KindredBooks$Book", "knows", "[Z", true)
  | 3 => ("KindredBooks$Book", "counting", "[Z", true)
  | 4 => ("KindredBooks$Book", "standing", "[Z", true)
  | 5 => ("KindredBooks$Book", "order", "[LKindredBooks$Change;", true)
  | 6 => ("KindredBooks$Book", "size", "I", false)
  | 7 => ("KindredBooks$Book", "greatest", "I", false)
  | _ => ("KindredBooks$Book", "version", "I", false)
def ty_zk5 : Nat → FieldType := fun k => match k with
  | 0 => .int
  | 1 => (.object "KindredBooks$Ledger")
  | 2 => (.array .boolean)
  | 3 => (.array .boolean)
  | 4 => (.array .boolean)
  | 5 => (.array (.object "KindredBooks$Change"))
  | 6 => .int
  | 7 => .int
  | _ => .int
theorem nm_zk5 : ∀ a, a < 9 → ∀ b, b < 9 → a ≠ b → (T_zk5 a).2.1 ≠ (T_zk5 b).2.1 := by decide +kernel
theorem ok_zk5 : ∀ k, k < 9 → parseFieldDescriptor (T_zk5 k).2.2.1 = some (ty_zk5 k) := by decide +kernel
theorem in_zk5 : ∀ w ∈ u_ws "KindredBooks$Book" T_zk5 9, w ∈ W0 := by
  intro w hw
  obtain ⟨k, hk, rfl⟩ := List.mem_map.mp hw
  match k, List.mem_range.mp hk with
  | 0, _ => exact mw_280
  | 1, _ => exact mw_282
  | 2, _ => exact mw_284
  | 3, _ => exact mw_286
  | 4, _ => exact mw_288
  | 5, _ => exact mw_290
  | 6, _ => exact mw_292
  | 7, _ => exact mw_294
  | 8, _ => exact mw_296
  | k + 9, h => exact absurd h (by omega)
theorem mw_319 : (Jvm.Cond.laysFinal "KindredBooks$Kin" "KindredBooks$Kin" "book" "LKindredBooks$Book;") ∈ W0 := W0_of (List.mem_append_right _ (List.mem_of_getElem? (i := 319) (by decide +kernel))) rfl
theorem mw_321 : (Jvm.Cond.laysFinal "KindredBooks$Kin" "KindredBooks$Kin" "ledger" "LKindredBooks$Ledger;") ∈ W0 := W0_of (List.mem_append_right _ (List.mem_of_getElem? (i := 321) (by decide +kernel))) rfl
theorem mw_323 : (Jvm.Cond.laysFinal "KindredBooks$Kin" "KindredBooks$Kin" "group" "[I") ∈ W0 := W0_of (List.mem_append_right _ (List.mem_of_getElem? (i := 323) (by decide +kernel))) rfl
theorem mw_325 : (Jvm.Cond.laysFinal "KindredBooks$Kin" "KindredBooks$Kin" "holding" "[Z") ∈ W0 := W0_of (List.mem_append_right _ (List.mem_of_getElem? (i := 325) (by decide +kernel))) rfl
theorem mw_327 : (Jvm.Cond.laysFinal "KindredBooks$Kin" "KindredBooks$Kin" "numbers" "[I") ∈ W0 := W0_of (List.mem_append_right _ (List.mem_of_getElem? (i := 327) (by decide +kernel))) rfl
theorem mw_329 : (Jvm.Cond.lays "KindredBooks$Kin" "KindredBooks$Kin" "size" "I") ∈ W0 := W0_of (List.mem_append_right _ (List.mem_of_getElem? (i := 329) (by decide +kernel))) rfl
theorem mw_331 : (Jvm.Cond.laysFinal "KindredBooks$Kin" "KindredBooks$Kin" "lines" "[I") ∈ W0 := W0_of (List.mem_append_right _ (List.mem_of_getElem? (i := 331) (by decide +kernel))) rfl
theorem mw_333 : (Jvm.Cond.laysFinal "KindredBooks$Kin" "KindredBooks$Kin" "starts" "[I") ∈ W0 := W0_of (List.mem_append_right _ (List.mem_of_getElem? (i := 333) (by decide +kernel))) rfl
theorem mw_335 : (Jvm.Cond.laysFinal "KindredBooks$Kin" "KindredBooks$Kin" "isFirstOfValue" "[Z") ∈ W0 := W0_of (List.mem_append_right _ (List.mem_of_getElem? (i := 335) (by decide +kernel))) rfl
theorem mw_337 : (Jvm.Cond.laysFinal "KindredBooks$Kin" "KindredBooks$Kin" "isShown" "[Z") ∈ W0 := W0_of (List.mem_append_right _ (List.mem_of_getElem? (i := 337) (by decide +kernel))) rfl
theorem mw_339 : (Jvm.Cond.laysFinal "KindredBooks$Kin" "KindredBooks$Kin" "steps" "[I") ∈ W0 := W0_of (List.mem_append_right _ (List.mem_of_getElem? (i := 339) (by decide +kernel))) rfl
theorem mw_341 : (Jvm.Cond.laysFinal "KindredBooks$Kin" "KindredBooks$Kin" "queue" "[I") ∈ W0 := W0_of (List.mem_append_right _ (List.mem_of_getElem? (i := 341) (by decide +kernel))) rfl
theorem mw_343 : (Jvm.Cond.lays "KindredBooks$Kin" "KindredBooks$Kin" "freshVersion" "I") ∈ W0 := W0_of (List.mem_append_right _ (List.mem_of_getElem? (i := 343) (by decide +kernel))) rfl
def T_zk6 : u_T := fun k => match k with
  | 0 => ("KindredBooks$Kin", "book", "LKindredBooks$Book;", true)
  | 1 => ("KindredBooks$Kin", "ledger", "LKindredBooks$Ledger;", true)
  | 2 => ("KindredBooks$Kin", "group", "[I", true)
  | 3 => ("KindredBooks$Kin", "holding", "[Z", true)
  | 4 => ("KindredBooks$Kin", "numbers", "[I", true)
  | 5 => ("KindredBooks$Kin", "size", "I", false)
  | 6 => ("KindredBooks$Kin", "lines", "[I", true)
  | 7 => ("KindredBooks$Kin", "starts", "[I", true)
  | 8 => ("KindredBooks$Kin", "isFirstOfValue", "[Z", true)
  | 9 => ("KindredBooks$Kin", "isShown", "[Z", true)
  | 10 => ("KindredBooks$Kin", "steps", "[I", true)
  | 11 => ("KindredBooks$Kin", "queue", "[I", true)
  | _ => ("KindredBooks$Kin", "freshVersion", "I", false)
def ty_zk6 : Nat → FieldType := fun k => match k with
  | 0 => (.object "KindredBooks$Book")
  | 1 => (.object "KindredBooks$Ledger")
  | 2 => (.array .int)
  | 3 => (.array .boolean)
  | 4 => (.array .int)
  | 5 => .int
  | 6 => (.array .int)
  | 7 => (.array .int)
  | 8 => (.array .boolean)
  | 9 => (.array .boolean)
  | 10 => (.array .int)
  | 11 => (.array .int)
  | _ => .int
theorem nm_zk6 : ∀ a, a < 13 → ∀ b, b < 13 → a ≠ b → (T_zk6 a).2.1 ≠ (T_zk6 b).2.1 := by decide +kernel
theorem ok_zk6 : ∀ k, k < 13 → parseFieldDescriptor (T_zk6 k).2.2.1 = some (ty_zk6 k) := by decide +kernel
theorem in_zk6 : ∀ w ∈ u_ws "KindredBooks$Kin" T_zk6 13, w ∈ W0 := by
  intro w hw
  obtain ⟨k, hk, rfl⟩ := List.mem_map.mp hw
  match k, List.mem_range.mp hk with
  | 0, _ => exact mw_319
  | 1, _ => exact mw_321
  | 2, _ => exact mw_323
  | 3, _ => exact mw_325
  | 4, _ => exact mw_327
  | 5, _ => exact mw_329
  | 6, _ => exact mw_331
  | 7, _ => exact mw_333
  | 8, _ => exact mw_335
  | 9, _ => exact mw_337
  | 10, _ => exact mw_339
  | 11, _ => exact mw_341
  | 12, _ => exact mw_343
  | k + 13, h => exact absurd h (by omega)
theorem mw_197 : (Jvm.Cond.laysFinal "KindredBooks$Measure" "KindredBooks$Measure" "row" "[I") ∈ W0 := W0_of (List.mem_append_right _ (List.mem_of_getElem? (i := 197) (by decide +kernel))) rfl
theorem mw_199 : (Jvm.Cond.laysFinal "KindredBooks$Measure" "KindredBooks$Measure" "signs" "[I") ∈ W0 := W0_of (List.mem_append_right _ (List.mem_of_getElem? (i := 199) (by decide +kernel))) rfl
theorem mw_201 : (Jvm.Cond.lays "KindredBooks$Measure" "KindredBooks$Measure" "letters" "I") ∈ W0 := W0_of (List.mem_append_right _ (List.mem_of_getElem? (i := 201) (by decide +kernel))) rfl
theorem mw_203 : (Jvm.Cond.lays "KindredBooks$Measure" "KindredBooks$Measure" "pieces" "I") ∈ W0 := W0_of (List.mem_append_right _ (List.mem_of_getElem? (i := 203) (by decide +kernel))) rfl
theorem mw_205 : (Jvm.Cond.lays "KindredBooks$Measure" "KindredBooks$Measure" "sounds" "I") ∈ W0 := W0_of (List.mem_append_right _ (List.mem_of_getElem? (i := 205) (by decide +kernel))) rfl
theorem mw_207 : (Jvm.Cond.lays "KindredBooks$Measure" "KindredBooks$Measure" "calls" "I") ∈ W0 := W0_of (List.mem_append_right _ (List.mem_of_getElem? (i := 207) (by decide +kernel))) rfl
def T_zk7 : u_T := fun k => match k with
  | 0 => ("KindredBooks$Measure", "row", "[I", true)
  | 1 => ("KindredBooks$Measure", "signs", "[I", true)
  | 2 => ("KindredBooks$Measure", "letters", "I", false)
  | 3 => ("KindredBooks$Measure", "pieces", "I", false)
  | 4 => ("KindredBooks$Measure", "sounds", "I", false)
  | _ => ("KindredBooks$Measure", "calls", "I", false)
def ty_zk7 : Nat → FieldType := fun k => match k with
  | 0 => (.array .int)
  | 1 => (.array .int)
  | 2 => .int
  | 3 => .int
  | 4 => .int
  | _ => .int
theorem nm_zk7 : ∀ a, a < 6 → ∀ b, b < 6 → a ≠ b → (T_zk7 a).2.1 ≠ (T_zk7 b).2.1 := by decide +kernel
theorem ok_zk7 : ∀ k, k < 6 → parseFieldDescriptor (T_zk7 k).2.2.1 = some (ty_zk7 k) := by decide +kernel
theorem in_zk7 : ∀ w ∈ u_ws "KindredBooks$Measure" T_zk7 6, w ∈ W0 := by
  intro w hw
  obtain ⟨k, hk, rfl⟩ := List.mem_map.mp hw
  match k, List.mem_range.mp hk with
  | 0, _ => exact mw_197
  | 1, _ => exact mw_199
  | 2, _ => exact mw_201
  | 3, _ => exact mw_203
  | 4, _ => exact mw_205
  | 5, _ => exact mw_207
  | k + 6, h => exact absurd h (by omega)
theorem mw_229 : (Jvm.Cond.laysFinal "KindredBooks$Paper" "KindredBooks$Paper" "kinds" "[I") ∈ W0 := W0_of (List.mem_append_right _ (List.mem_of_getElem? (i := 229) (by decide +kernel))) rfl
theorem mw_231 : (Jvm.Cond.laysFinal "KindredBooks$Paper" "KindredBooks$Paper" "starts" "[I") ∈ W0 := W0_of (List.mem_append_right _ (List.mem_of_getElem? (i := 231) (by decide +kernel))) rfl
theorem mw_233 : (Jvm.Cond.laysFinal "KindredBooks$Paper" "KindredBooks$Paper" "ends" "[I") ∈ W0 := W0_of (List.mem_append_right _ (List.mem_of_getElem? (i := 233) (by decide +kernel))) rfl
theorem mw_235 : (Jvm.Cond.laysFinal "KindredBooks$Paper" "KindredBooks$Paper" "isLast" "[Z") ∈ W0 := W0_of (List.mem_append_right _ (List.mem_of_getElem? (i := 235) (by decide +kernel))) rfl
theorem mw_237 : (Jvm.Cond.laysFinal "KindredBooks$Paper" "KindredBooks$Paper" "drafts" "[LKindredBooks$Line;") ∈ W0 := W0_of (List.mem_append_right _ (List.mem_of_getElem? (i := 237) (by decide +kernel))) rfl
theorem mw_239 : (Jvm.Cond.lays "KindredBooks$Paper" "KindredBooks$Paper" "lines" "I") ∈ W0 := W0_of (List.mem_append_right _ (List.mem_of_getElem? (i := 239) (by decide +kernel))) rfl
theorem mw_241 : (Jvm.Cond.lays "KindredBooks$Paper" "KindredBooks$Paper" "errorKind" "I") ∈ W0 := W0_of (List.mem_append_right _ (List.mem_of_getElem? (i := 241) (by decide +kernel))) rfl
theorem mw_243 : (Jvm.Cond.lays "KindredBooks$Paper" "KindredBooks$Paper" "errorPlace" "I") ∈ W0 := W0_of (List.mem_append_right _ (List.mem_of_getElem? (i := 243) (by decide +kernel))) rfl
def T_zk8 : u_T := fun k => match k with
  | 0 => ("KindredBooks$Paper", "kinds", "[I", true)
  | 1 => ("KindredBooks$Paper", "starts", "[I", true)
  | 2 => ("KindredBooks$Paper", "ends", "[I", true)
  | 3 => ("KindredBooks$Paper", "isLast", "[Z", true)
  | 4 => ("KindredBooks$Paper", "drafts", "[LKindredBooks$Line;", true)
  | 5 => ("KindredBooks$Paper", "lines", "I", false)
  | 6 => ("KindredBooks$Paper", "errorKind", "I", false)
  | _ => ("KindredBooks$Paper", "errorPlace", "I", false)
def ty_zk8 : Nat → FieldType := fun k => match k with
  | 0 => (.array .int)
  | 1 => (.array .int)
  | 2 => (.array .int)
  | 3 => (.array .boolean)
  | 4 => (.array (.object "KindredBooks$Line"))
  | 5 => .int
  | 6 => .int
  | _ => .int
theorem nm_zk8 : ∀ a, a < 8 → ∀ b, b < 8 → a ≠ b → (T_zk8 a).2.1 ≠ (T_zk8 b).2.1 := by decide +kernel
theorem ok_zk8 : ∀ k, k < 8 → parseFieldDescriptor (T_zk8 k).2.2.1 = some (ty_zk8 k) := by decide +kernel
theorem in_zk8 : ∀ w ∈ u_ws "KindredBooks$Paper" T_zk8 8, w ∈ W0 := by
  intro w hw
  obtain ⟨k, hk, rfl⟩ := List.mem_map.mp hw
  match k, List.mem_range.mp hk with
  | 0, _ => exact mw_229
  | 1, _ => exact mw_231
  | 2, _ => exact mw_233
  | 3, _ => exact mw_235
  | 4, _ => exact mw_237
  | 5, _ => exact mw_239
  | 6, _ => exact mw_241
  | 7, _ => exact mw_243
  | k + 8, h => exact absurd h (by omega)
theorem mw_256 : (Jvm.Cond.lays "KindredBooks$Answers" "KindredBooks$Answers" "rows" "[J") ∈ W0 := W0_of (List.mem_append_right _ (List.mem_of_getElem? (i := 256) (by decide +kernel))) rfl
theorem mw_258 : (Jvm.Cond.lays "KindredBooks$Answers" "KindredBooks$Answers" "size" "I") ∈ W0 := W0_of (List.mem_append_right _ (List.mem_of_getElem? (i := 258) (by decide +kernel))) rfl
def T_zk9 : u_T := fun k => match k with
  | 0 => ("KindredBooks$Answers", "rows", "[J", false)
  | _ => ("KindredBooks$Answers", "size", "I", false)
def ty_zk9 : Nat → FieldType := fun k => match k with
  | 0 => (.array .long)
  | _ => .int
theorem nm_zk9 : ∀ a, a < 2 → ∀ b, b < 2 → a ≠ b → (T_zk9 a).2.1 ≠ (T_zk9 b).2.1 := by decide +kernel
theorem ok_zk9 : ∀ k, k < 2 → parseFieldDescriptor (T_zk9 k).2.2.1 = some (ty_zk9 k) := by decide +kernel
theorem in_zk9 : ∀ w ∈ u_ws "KindredBooks$Answers" T_zk9 2, w ∈ W0 := by
  intro w hw
  obtain ⟨k, hk, rfl⟩ := List.mem_map.mp hw
  match k, List.mem_range.mp hk with
  | 0, _ => exact mw_256
  | 1, _ => exact mw_258
  | k + 2, h => exact absurd h (by omega)
theorem mw_1532 : (Jvm.Cond.lays "KindredBooksModel" "KindredBooksModel" "thrown" "I") ∈ W0 := W0_of (List.mem_append_right _ (List.mem_of_getElem? (i := 1532) (by decide +kernel))) rfl
theorem mw_1534 : (Jvm.Cond.laysFinal "KindredBooksModel" "KindredBooksModel" "all" "Ljava/util/List;") ∈ W0 := W0_of (List.mem_append_right _ (List.mem_of_getElem? (i := 1534) (by decide +kernel))) rfl
theorem mw_1536 : (Jvm.Cond.laysFinal "KindredBooksModel" "KindredBooksModel" "knows" "[[Z") ∈ W0 := W0_of (List.mem_append_right _ (List.mem_of_getElem? (i := 1536) (by decide +kernel))) rfl
theorem mw_1538 : (Jvm.Cond.lays "KindredBooksModel" "KindredBooksModel" "country" "I") ∈ W0 := W0_of (List.mem_append_right _ (List.mem_of_getElem? (i := 1538) (by decide +kernel))) rfl
theorem mw_1540 : (Jvm.Cond.laysFinal "KindredBooksModel" "KindredBooksModel" "text" "Ljava/lang/StringBuilder;") ∈ W0 := W0_of (List.mem_append_right _ (List.mem_of_getElem? (i := 1540) (by decide +kernel))) rfl
theorem mw_1542 : (Jvm.Cond.lays "KindredBooksModel" "KindredBooksModel" "page" "Ljava/lang/String;") ∈ W0 := W0_of (List.mem_append_right _ (List.mem_of_getElem? (i := 1542) (by decide +kernel))) rfl
theorem mw_1544 : (Jvm.Cond.lays "KindredBooksModel" "KindredBooksModel" "suggestions" "Ljava/util/List;") ∈ W0 := W0_of (List.mem_append_right _ (List.mem_of_getElem? (i := 1544) (by decide +kernel))) rfl
theorem mw_1546 : (Jvm.Cond.lays "KindredBooksModel" "KindredBooksModel" "founds" "Ljava/util/List;") ∈ W0 := W0_of (List.mem_append_right _ (List.mem_of_getElem? (i := 1546) (by decide +kernel))) rfl
theorem mw_1548 : (Jvm.Cond.lays "KindredBooksModel" "KindredBooksModel" "yearlies" "Ljava/util/List;") ∈ W0 := W0_of (List.mem_append_right _ (List.mem_of_getElem? (i := 1548) (by decide +kernel))) rfl
theorem mw_1550 : (Jvm.Cond.lays "KindredBooksModel" "KindredBooksModel" "errorKind" "I") ∈ W0 := W0_of (List.mem_append_right _ (List.mem_of_getElem? (i := 1550) (by decide +kernel))) rfl
theorem mw_1552 : (Jvm.Cond.lays "KindredBooksModel" "KindredBooksModel" "errorPlace" "I") ∈ W0 := W0_of (List.mem_append_right _ (List.mem_of_getElem? (i := 1552) (by decide +kernel))) rfl
theorem mw_1554 : (Jvm.Cond.lays "KindredBooksModel" "KindredBooksModel" "paper" "Ljava/util/List;") ∈ W0 := W0_of (List.mem_append_right _ (List.mem_of_getElem? (i := 1554) (by decide +kernel))) rfl
theorem mw_1556 : (Jvm.Cond.lays "KindredBooksModel" "KindredBooksModel" "paperTexts" "Ljava/util/List;") ∈ W0 := W0_of (List.mem_append_right _ (List.mem_of_getElem? (i := 1556) (by decide +kernel))) rfl
theorem mw_1558 : (Jvm.Cond.lays "KindredBooksModel" "KindredBooksModel" "cards" "I") ∈ W0 := W0_of (List.mem_append_right _ (List.mem_of_getElem? (i := 1558) (by decide +kernel))) rfl
def T_zk10 : u_T := fun k => match k with
  | 0 => ("KindredBooksModel", "thrown", "I", false)
  | 1 => ("KindredBooksModel", "all", "Ljava/util/List;", true)
  | 2 => ("KindredBooksModel", "knows", "[[Z", true)
  | 3 => ("KindredBooksModel", "country", "I", false)
  | 4 => ("KindredBooksModel", "text", "Ljava/lang/StringBuilder;", true)
  | 5 => ("KindredBooksModel", "page", "Ljava/lang/String;", false)
  | 6 => ("KindredBooksModel", "suggestions", "Ljava/util/List;", false)
  | 7 => ("KindredBooksModel", "founds", "Ljava/util/List;", false)
  | 8 => ("KindredBooksModel", "yearlies", "Ljava/util/List;", false)
  | 9 => ("KindredBooksModel", "errorKind", "I", false)
  | 10 => ("KindredBooksModel", "errorPlace", "I", false)
  | 11 => ("KindredBooksModel", "paper", "Ljava/util/List;", false)
  | 12 => ("KindredBooksModel", "paperTexts", "Ljava/util/List;", false)
  | _ => ("KindredBooksModel", "cards", "I", false)
def ty_zk10 : Nat → FieldType := fun k => match k with
  | 0 => .int
  | 1 => (.object "java/util/List")
  | 2 => (.array (.array .boolean))
  | 3 => .int
  | 4 => (.object "java/lang/StringBuilder")
  | 5 => (.object "java/lang/String")
  | 6 => (.object "java/util/List")
  | 7 => (.object "java/util/List")
  | 8 => (.object "java/util/List")
  | 9 => .int
  | 10 => .int
  | 11 => (.object "java/util/List")
  | 12 => (.object "java/util/List")
  | _ => .int
theorem nm_zk10 : ∀ a, a < 14 → ∀ b, b < 14 → a ≠ b → (T_zk10 a).2.1 ≠ (T_zk10 b).2.1 := by decide +kernel
theorem ok_zk10 : ∀ k, k < 14 → parseFieldDescriptor (T_zk10 k).2.2.1 = some (ty_zk10 k) := by decide +kernel
theorem in_zk10 : ∀ w ∈ u_ws "KindredBooksModel" T_zk10 14, w ∈ W0 := by
  intro w hw
  obtain ⟨k, hk, rfl⟩ := List.mem_map.mp hw
  match k, List.mem_range.mp hk with
  | 0, _ => exact mw_1532
  | 1, _ => exact mw_1534
  | 2, _ => exact mw_1536
  | 3, _ => exact mw_1538
  | 4, _ => exact mw_1540
  | 5, _ => exact mw_1542
  | 6, _ => exact mw_1544
  | 7, _ => exact mw_1546
  | 8, _ => exact mw_1548
  | 9, _ => exact mw_1550
  | 10, _ => exact mw_1552
  | 11, _ => exact mw_1554
  | 12, _ => exact mw_1556
  | 13, _ => exact mw_1558
  | k + 14, h => exact absurd h (by omega)
theorem mw_2236 : (Jvm.Cond.laysFinal "KindredBooksModel$View" "KindredBooksModel$View" "counts" "[Z") ∈ W0 := W0_of (List.mem_append_right _ (List.mem_of_getElem? (i := 2236) (by decide +kernel))) rfl
theorem mw_2238 : (Jvm.Cond.laysFinal "KindredBooksModel$View" "KindredBooksModel$View" "stands" "[Z") ∈ W0 := W0_of (List.mem_append_right _ (List.mem_of_getElem? (i := 2238) (by decide +kernel))) rfl
theorem mw_2240 : (Jvm.Cond.laysFinal "KindredBooksModel$View" "KindredBooksModel$View" "holds" "[Z") ∈ W0 := W0_of (List.mem_append_right _ (List.mem_of_getElem? (i := 2240) (by decide +kernel))) rfl
theorem mw_2242 : (Jvm.Cond.laysFinal "KindredBooksModel$View" "KindredBooksModel$View" "group" "[I") ∈ W0 := W0_of (List.mem_append_right _ (List.mem_of_getElem? (i := 2242) (by decide +kernel))) rfl
theorem mw_2244 : (Jvm.Cond.laysFinal "KindredBooksModel$View" "KindredBooksModel$View" "order" "Ljava/util/List;") ∈ W0 := W0_of (List.mem_append_right _ (List.mem_of_getElem? (i := 2244) (by decide +kernel))) rfl
theorem mw_2246 : (Jvm.Cond.laysFinal "KindredBooksModel$View" "KindredBooksModel$View" "this$0" "LKindredBooksModel;") ∈ W0 := W0_of (List.mem_append_right _ (List.mem_of_getElem? (i := 2246) (by decide +kernel))) rfl
def T_zk11 : u_T := fun k => match k with
  | 0 => ("KindredBooksModel$View", "counts", "[Z", true)
  | 1 => ("KindredBooksModel$View", "stands", "[Z", true)
  | 2 => ("KindredBooksModel$View", "holds", "[Z", true)
  | 3 => ("KindredBooksModel$View", "group", "[I", true)
  | 4 => ("KindredBooksModel$View", "order", "Ljava/util/List;", true)
  | _ => ("KindredBooksModel$View", "this$0", "LKindredBooksModel;", true)
def ty_zk11 : Nat → FieldType := fun k => match k with
  | 0 => (.array .boolean)
  | 1 => (.array .boolean)
  | 2 => (.array .boolean)
  | 3 => (.array .int)
  | 4 => (.object "java/util/List")
  | _ => (.object "KindredBooksModel")
theorem nm_zk11 : ∀ a, a < 6 → ∀ b, b < 6 → a ≠ b → (T_zk11 a).2.1 ≠ (T_zk11 b).2.1 := by decide +kernel
theorem ok_zk11 : ∀ k, k < 6 → parseFieldDescriptor (T_zk11 k).2.2.1 = some (ty_zk11 k) := by decide +kernel
theorem in_zk11 : ∀ w ∈ u_ws "KindredBooksModel$View" T_zk11 6, w ∈ W0 := by
  intro w hw
  obtain ⟨k, hk, rfl⟩ := List.mem_map.mp hw
  match k, List.mem_range.mp hk with
  | 0, _ => exact mw_2236
  | 1, _ => exact mw_2238
  | 2, _ => exact mw_2240
  | 3, _ => exact mw_2242
  | 4, _ => exact mw_2244
  | 5, _ => exact mw_2246
  | k + 6, h => exact absurd h (by omega)
theorem mw_2050 : (Jvm.Cond.laysFinal "KindredBooksModel$Change" "KindredBooksModel$Change" "kind" "I") ∈ W0 := W0_of (List.mem_append_right _ (List.mem_of_getElem? (i := 2050) (by decide +kernel))) rfl
theorem mw_2052 : (Jvm.Cond.laysFinal "KindredBooksModel$Change" "KindredBooksModel$Change" "hand" "I") ∈ W0 := W0_of (List.mem_append_right _ (List.mem_of_getElem? (i := 2052) (by decide +kernel))) rfl
theorem mw_2054 : (Jvm.Cond.laysFinal "KindredBooksModel$Change" "KindredBooksModel$Change" "count" "I") ∈ W0 := W0_of (List.mem_append_right _ (List.mem_of_getElem? (i := 2054) (by decide +kernel))) rfl
theorem mw_2056 : (Jvm.Cond.laysFinal "KindredBooksModel$Change" "KindredBooksModel$Change" "first" "I") ∈ W0 := W0_of (List.mem_append_right _ (List.mem_of_getElem? (i := 2056) (by decide +kernel))) rfl
theorem mw_2058 : (Jvm.Cond.laysFinal "KindredBooksModel$Change" "KindredBooksModel$Change" "second" "I") ∈ W0 := W0_of (List.mem_append_right _ (List.mem_of_getElem? (i := 2058) (by decide +kernel))) rfl
theorem mw_2060 : (Jvm.Cond.laysFinal "KindredBooksModel$Change" "KindredBooksModel$Change" "text" "Ljava/lang/String;") ∈ W0 := W0_of (List.mem_append_right _ (List.mem_of_getElem? (i := 2060) (by decide +kernel))) rfl
def T_zk12 : u_T := fun k => match k with
  | 0 => ("KindredBooksModel$Change", "kind", "I", true)
  | 1 => ("KindredBooksModel$Change", "hand", "I", true)
  | 2 => ("KindredBooksModel$Change", "count", "I", true)
  | 3 => ("KindredBooksModel$Change", "first", "I", true)
  | 4 => ("KindredBooksModel$Change", "second", "I", true)
  | _ => ("KindredBooksModel$Change", "text", "Ljava/lang/String;", true)
def ty_zk12 : Nat → FieldType := fun k => match k with
  | 0 => .int
  | 1 => .int
  | 2 => .int
  | 3 => .int
  | 4 => .int
  | _ => (.object "java/lang/String")
theorem nm_zk12 : ∀ a, a < 6 → ∀ b, b < 6 → a ≠ b → (T_zk12 a).2.1 ≠ (T_zk12 b).2.1 := by decide +kernel
theorem ok_zk12 : ∀ k, k < 6 → parseFieldDescriptor (T_zk12 k).2.2.1 = some (ty_zk12 k) := by decide +kernel
theorem in_zk12 : ∀ w ∈ u_ws "KindredBooksModel$Change" T_zk12 6, w ∈ W0 := by
  intro w hw
  obtain ⟨k, hk, rfl⟩ := List.mem_map.mp hw
  match k, List.mem_range.mp hk with
  | 0, _ => exact mw_2050
  | 1, _ => exact mw_2052
  | 2, _ => exact mw_2054
  | 3, _ => exact mw_2056
  | 4, _ => exact mw_2058
  | 5, _ => exact mw_2060
  | k + 6, h => exact absurd h (by omega)
theorem mw_1478 : (Jvm.Cond.lays "java/util/ArrayList" "java/util/AbstractList" "modCount" "I") ∈ W0 := W0_of (List.mem_append_right _ (List.mem_of_getElem? (i := 1478) (by decide +kernel))) rfl
theorem mw_1474 : (Jvm.Cond.lays "java/util/ArrayList" "java/util/ArrayList" "elementData" "[Ljava/lang/Object;") ∈ W0 := W0_of (List.mem_append_right _ (List.mem_of_getElem? (i := 1474) (by decide +kernel))) rfl
theorem mw_1476 : (Jvm.Cond.lays "java/util/ArrayList" "java/util/ArrayList" "size" "I") ∈ W0 := W0_of (List.mem_append_right _ (List.mem_of_getElem? (i := 1476) (by decide +kernel))) rfl
def T_zk13 : u_T := fun k => match k with
  | 0 => ("java/util/AbstractList", "modCount", "I", false)
  | 1 => ("java/util/ArrayList", "elementData", "[Ljava/lang/Object;", false)
  | _ => ("java/util/ArrayList", "size", "I", false)
def ty_zk13 : Nat → FieldType := fun k => match k with
  | 0 => .int
  | 1 => (.array (.object "java/lang/Object"))
  | _ => .int
theorem nm_zk13 : ∀ a, a < 3 → ∀ b, b < 3 → a ≠ b → (T_zk13 a).2.1 ≠ (T_zk13 b).2.1 := by decide +kernel
theorem ok_zk13 : ∀ k, k < 3 → parseFieldDescriptor (T_zk13 k).2.2.1 = some (ty_zk13 k) := by decide +kernel
theorem in_zk13 : ∀ w ∈ u_ws "java/util/ArrayList" T_zk13 3, w ∈ W0 := by
  intro w hw
  obtain ⟨k, hk, rfl⟩ := List.mem_map.mp hw
  match k, List.mem_range.mp hk with
  | 0, _ => exact mw_1478
  | 1, _ => exact mw_1474
  | 2, _ => exact mw_1476
  | k + 3, h => exact absurd h (by omega)
theorem mw_1506 : (Jvm.Cond.lays "java/lang/StringBuilder" "java/lang/AbstractStringBuilder" "value" "[B") ∈ W0 := W0_of (List.mem_append_right _ (List.mem_of_getElem? (i := 1506) (by decide +kernel))) rfl
theorem mw_1508 : (Jvm.Cond.lays "java/lang/StringBuilder" "java/lang/AbstractStringBuilder" "coder" "B") ∈ W0 := W0_of (List.mem_append_right _ (List.mem_of_getElem? (i := 1508) (by decide +kernel))) rfl
theorem mw_1510 : (Jvm.Cond.lays "java/lang/StringBuilder" "java/lang/AbstractStringBuilder" "maybeLatin1" "Z") ∈ W0 := W0_of (List.mem_append_right _ (List.mem_of_getElem? (i := 1510) (by decide +kernel))) rfl
theorem mw_1512 : (Jvm.Cond.lays "java/lang/StringBuilder" "java/lang/AbstractStringBuilder" "count" "I") ∈ W0 := W0_of (List.mem_append_right _ (List.mem_of_getElem? (i := 1512) (by decide +kernel))) rfl
def T_zk14 : u_T := fun k => match k with
  | 0 => ("java/lang/AbstractStringBuilder", "value", "[B", false)
  | 1 => ("java/lang/AbstractStringBuilder", "coder", "B", false)
  | 2 => ("java/lang/AbstractStringBuilder", "maybeLatin1", "Z", false)
  | _ => ("java/lang/AbstractStringBuilder", "count", "I", false)
def ty_zk14 : Nat → FieldType := fun k => match k with
  | 0 => (.array .byte)
  | 1 => .byte
  | 2 => .boolean
  | _ => .int
theorem nm_zk14 : ∀ a, a < 4 → ∀ b, b < 4 → a ≠ b → (T_zk14 a).2.1 ≠ (T_zk14 b).2.1 := by decide +kernel
theorem ok_zk14 : ∀ k, k < 4 → parseFieldDescriptor (T_zk14 k).2.2.1 = some (ty_zk14 k) := by decide +kernel
theorem in_zk14 : ∀ w ∈ u_ws "java/lang/StringBuilder" T_zk14 4, w ∈ W0 := by
  intro w hw
  obtain ⟨k, hk, rfl⟩ := List.mem_map.mp hw
  match k, List.mem_range.mp hk with
  | 0, _ => exact mw_1506
  | 1, _ => exact mw_1508
  | 2, _ => exact mw_1510
  | 3, _ => exact mw_1512
  | k + 4, h => exact absurd h (by omega)
theorem mw_1920 : (Jvm.Cond.laysFinal "java/lang/String" "java/lang/String" "value" "[B") ∈ W0 := W0_of (List.mem_append_right _ (List.mem_of_getElem? (i := 1920) (by decide +kernel))) rfl
theorem mw_1922 : (Jvm.Cond.laysFinal "java/lang/String" "java/lang/String" "coder" "B") ∈ W0 := W0_of (List.mem_append_right _ (List.mem_of_getElem? (i := 1922) (by decide +kernel))) rfl
theorem mw_1924 : (Jvm.Cond.lays "java/lang/String" "java/lang/String" "hash" "I") ∈ W0 := W0_of (List.mem_append_right _ (List.mem_of_getElem? (i := 1924) (by decide +kernel))) rfl
theorem mw_1926 : (Jvm.Cond.lays "java/lang/String" "java/lang/String" "hashIsZero" "Z") ∈ W0 := W0_of (List.mem_append_right _ (List.mem_of_getElem? (i := 1926) (by decide +kernel))) rfl
def T_zk15 : u_T := fun k => match k with
  | 0 => ("java/lang/String", "value", "[B", true)
  | 1 => ("java/lang/String", "coder", "B", true)
  | 2 => ("java/lang/String", "hash", "I", false)
  | _ => ("java/lang/String", "hashIsZero", "Z", false)
def ty_zk15 : Nat → FieldType := fun k => match k with
  | 0 => (.array .byte)
  | 1 => .byte
  | 2 => .int
  | _ => .boolean
theorem nm_zk15 : ∀ a, a < 4 → ∀ b, b < 4 → a ≠ b → (T_zk15 a).2.1 ≠ (T_zk15 b).2.1 := by decide +kernel
theorem ok_zk15 : ∀ k, k < 4 → parseFieldDescriptor (T_zk15 k).2.2.1 = some (ty_zk15 k) := by decide +kernel
theorem in_zk15 : ∀ w ∈ u_ws "java/lang/String" T_zk15 4, w ∈ W0 := by
  intro w hw
  obtain ⟨k, hk, rfl⟩ := List.mem_map.mp hw
  match k, List.mem_range.mp hk with
  | 0, _ => exact mw_1920
  | 1, _ => exact mw_1922
  | 2, _ => exact mw_1924
  | 3, _ => exact mw_1926
  | k + 4, h => exact absurd h (by omega)
theorem mw_2174 : (Jvm.Cond.laysFinal "java/lang/Integer" "java/lang/Integer" "value" "I") ∈ W0 := W0_of (List.mem_append_right _ (List.mem_of_getElem? (i := 2174) (by decide +kernel))) rfl
def T_zk16 : u_T := fun k => match k with
  | _ => ("java/lang/Integer", "value", "I", true)
def ty_zk16 : Nat → FieldType := fun k => match k with
  | _ => .int
theorem nm_zk16 : ∀ a, a < 1 → ∀ b, b < 1 → a ≠ b → (T_zk16 a).2.1 ≠ (T_zk16 b).2.1 := by decide +kernel
theorem ok_zk16 : ∀ k, k < 1 → parseFieldDescriptor (T_zk16 k).2.2.1 = some (ty_zk16 k) := by decide +kernel
theorem in_zk16 : ∀ w ∈ u_ws "java/lang/Integer" T_zk16 1, w ∈ W0 := by
  intro w hw
  obtain ⟨k, hk, rfl⟩ := List.mem_map.mp hw
  match k, List.mem_range.mp hk with
  | 0, _ => exact mw_2174
  | k + 1, h => exact absurd h (by omega)
abbrev zcl : List vw_C := [("KindredBooks", T_zk0, 12), ("KindredBooks$Text", T_zk1, 2), ("KindredBooks$Ledger", T_zk2, 4), ("KindredBooks$Change", T_zk3, 7), ("KindredBooks$Line", T_zk4, 7), ("KindredBooks$Book", T_zk5, 9), ("KindredBooks$Kin", T_zk6, 13), ("KindredBooks$Measure", T_zk7, 6), ("KindredBooks$Paper", T_zk8, 8), ("KindredBooks$Answers", T_zk9, 2), ("KindredBooksModel", T_zk10, 14), ("KindredBooksModel$View", T_zk11, 6), ("KindredBooksModel$Change", T_zk12, 6), ("java/util/ArrayList", T_zk13, 3), ("java/lang/StringBuilder", T_zk14, 4), ("java/lang/String", T_zk15, 4), ("java/lang/Integer", T_zk16, 1)]
abbrev tz (dA : Nat → ClassId) : List (ClassId × FieldType) := [(dA 0, .int), (dA 1, .boolean), (dA 2, .byte), (dA 3, .long), (dA 4, .double), (dA 5, (.object "KindredBooks$Change")), (dA 6, (.object "KindredBooks$Book")), (dA 7, (.object "KindredBooks$Kin")), (dA 8, (.object "KindredBooks$Line")), (dA 9, (.object "java/lang/Object")), (dA 10, (.array .boolean))]
def zstrs : List (String × Nat × String) := [("KindredBooks", 87, "the text would be too long"), ("KindredBooks", 100, "the number of a country is 1 to 999"), ("KindredBooks", 395, "there is no such book"), ("KindredBooks", 402, "there are 250 changes"), ("KindredBooks", 404, "there is no such kind of lines"), ("KindredBooks", 409, "the entry is not live in this book"), ("KindredBooks", 151, "the text is none for such a line"), ("KindredBooks", 416, "both entries are the same one"), ("KindredBooks", 400, "there is no such change"), ("KindredBooks", 171, "the change does not count in this book"), ("KindredBooks", 198, "0 to 5 can be told of a change"), ("KindredBooks", 214, "there is no such group"), ("KindredBooks", 231, "the row has no such entry"), ("KindredBooks", 246, "there is no such line"), ("KindredBooks", 251, "the forms are 0 to 3"), ("KindredBooks", 261, "the page has no such byte"), ("KindredBooks", 269, "the bar is 401 to 1000"), ("KindredBooks", 411, "there is no such answer"), ("KindredBooks", 284, "0 to 2 can be told of a suggestion"), ("KindredBooks", 294, "there is no such way to search"), ("KindredBooks", 300, "there is nothing to search for"), ("KindredBooks", 322, "there is no such date, or no such number of days"), ("KindredBooks", 332, "0 to 2 can be told of a group"), ("KindredBooks", 344, "the text has an error"), ("KindredBooksModel", 41, ""), ("java/lang/AbstractStringBuilder", 230, "null"), ("java/lang/StringIndexOutOfBoundsException", 13, "String index out of range: "), ("java/util/Arrays", 337, " > "), ("java/util/Arrays", 48, "fromIndex("), ("java/util/Arrays", 57, ") > toIndex("), ("java/util/Arrays", 59, ")"), ("java/lang/ArrayIndexOutOfBoundsException", 13, "Array index out of range: "), ("java/util/ArrayList", 201, "Index: "), ("java/util/ArrayList", 203, ", Size: "), ("KindredBooksModel", 126, " "), ("KindredBooksModel", 153, "+"), ("java/lang/StringLatin1", 151, ""), ("java/lang/StringUTF16", 295, ""), ("KindredBooksModel", 162, "bfpv"), ("KindredBooksModel", 164, "cgjkqsxz"), ("KindredBooksModel", 166, "dt"), ("KindredBooksModel", 168, "l"), ("KindredBooksModel", 170, "mn"), ("KindredBooksModel", 172, "\x72"), ("KindredBooksModel", 420, "nwpdt")]
def zfaces : List (String × MethodName × MethodName) := [("java/util/ArrayList", ⟨"java/util/List", "size", "()I"⟩, ⟨"java/util/ArrayList", "size", "()I"⟩), ("java/util/ArrayList", ⟨"java/util/List", "get", "(I)Ljava/lang/Object;"⟩, ⟨"java/util/ArrayList", "get", "(I)Ljava/lang/Object;"⟩), ("java/util/ArrayList", ⟨"java/util/List", "add", "(Ljava/lang/Object;)Z"⟩, ⟨"java/util/ArrayList", "add", "(Ljava/lang/Object;)Z"⟩), ("java/util/ArrayList", ⟨"java/util/List", "add", "(ILjava/lang/Object;)V"⟩, ⟨"java/util/ArrayList", "add", "(ILjava/lang/Object;)V"⟩), ("java/util/ArrayList", ⟨"java/util/List", "isEmpty", "()Z"⟩, ⟨"java/util/ArrayList", "isEmpty", "()Z"⟩), ("java/util/ArrayList", ⟨"java/util/List", "contains", "(Ljava/lang/Object;)Z"⟩, ⟨"java/util/ArrayList", "contains", "(Ljava/lang/Object;)Z"⟩), ("java/lang/String", ⟨"java/lang/CharSequence", "length", "()I"⟩, ⟨"java/lang/String", "length", "()I"⟩), ("java/lang/String", ⟨"java/lang/CharSequence", "charAt", "(I)C"⟩, ⟨"java/lang/String", "charAt", "(I)C"⟩), ("java/lang/StringBuilder", ⟨"java/lang/CharSequence", "length", "()I"⟩, ⟨"java/lang/StringBuilder", "length", "()I"⟩), ("java/lang/StringBuilder", ⟨"java/lang/CharSequence", "charAt", "(I)C"⟩, ⟨"java/lang/StringBuilder", "charAt", "(I)C"⟩)]
/-! WHAT THE TABLES SAY that no list of good words holds: links of nest mates, casts, declarations; String constants; array classes; calls by an interface -/
def isN : Cond → Bool
  | .fieldLinkNest .. | .methodLinkNest .. | .castable .. | .declares _ => true
  | _ => false
def N0 : List Cond := lw_tbl.filter isN
theorem N0_of {w : Cond} (h : w ∈ lw_tbl) (g : isN w = true) : w ∈ N0 := List.mem_filter.mpr ⟨h, g⟩
def zN (U : State) : Prop := ∀ w ∈ N0, va_Nw w U
theorem isN_on {w : Cond} (h : isN w = true) : w.onTables = true := by
  cases w <;> first | rfl | exact absurd h (by simp [isN])
theorem zN.same {u U : State} (hv : u.vm = U.vm) (h : zN u) : zN U := fun w hw => va_Nw.same (isN_on (List.mem_filter.mp hw).2) hv (h w hw)
theorem zN.warm {s U : State} (hW : s.WarmedH U.vm) (h : zN s) : zN U := by
  intro w hw
  have hi := (List.mem_filter.mp hw).2
  have hs := h w hw
  cases w <;> first | exact va_Nw.warmF hW hs | exact va_Nw.warmM hW hs | exact va_Nw.warmC hW hs | exact va_Nw.warmD hW hs | exact absurd hi (by simp [isN])
theorem zN.use {s : State} {args : Array Value} (h : zN s) : ∀ w ∈ N0, w.before args s = true := fun w hw => va_Nw.use (isN_on (List.mem_filter.mp hw).2) (h w hw)
def zR (U : State) : Prop := ∀ q ∈ zstrs, ∃ a : Nat, vk_R q.1 q.2.1 q.2.2 a U
theorem zR.same {u U : State} (hv : U.vm = u.vm) (h : zR u) : zR U := fun q hq => by
  obtain ⟨a, ha⟩ := h q hq
  exact ⟨a, vk_R.same hv ha⟩
theorem zR.warm {s U : State} (hW : s.WarmedH U.vm) (h : zR s) : zR U := fun q hq => by
  obtain ⟨a, ha⟩ := h q hq
  exact ⟨a, vk_R.warm hW ha⟩
def zocl : List String := ["KindredBooks$Change", "KindredBooks$Book", "KindredBooks$Kin", "KindredBooks$Line", "java/lang/Object", "java/lang/String"]
def zO (U : State) : Prop := ∀ C ∈ zocl, va_AO C U
theorem zO.moved {u U : State} (hv : u.vm.Alike U.vm) (h : zO u) : zO U := fun C hC => va_AO.moved hv (h C hC)
def zF (U : State) : Prop := ∀ q ∈ zfaces, va_Fw q.1 q.2.1 q.2.2 U
theorem zF_ok : ∀ q ∈ zfaces, q.2.1.cls ≠ "java/lang/invoke/MethodHandle" ∧ q.2.1.cls ≠ "java/lang/invoke/VarHandle" := by decide +kernel
theorem zF.moved {u U : State} (hv : u.vm.Alike U.vm) (h : zF u) : zF U := fun q hq => va_Fw.moved (zF_ok q hq) hv (h q hq)
def zT (U : State) : Prop := zN U ∧ zR U ∧ zO U ∧ zF U
theorem zT.same {u U : State} (hv : u.vm = U.vm) (h : zT u) : zT U := ⟨zN.same hv h.1, zR.same hv.symm h.2.1, zO.moved (by rw [hv]; exact Vm.Alike.refl _) h.2.2.1, zF.moved (by rw [hv]; exact Vm.Alike.refl _) h.2.2.2⟩
theorem zT.warm {s U : State} (hW : s.WarmedH U.vm) (h : zT s) : zT U := ⟨zN.warm hW h.1, zR.warm hW h.2.1, zO.moved hW.alike h.2.2.1, zF.moved hW.alike h.2.2.2⟩
/-! WHAT STANDS OUTSIDE every world: statics and what they hold -/
def zLEN : Nat → Value := fun j => .int (([31, 28, 31, 30, 31, 30, 31, 31, 30, 31, 30, 31] : List Int32).getD j 0)
def zE (dZ : Nat → Nat) (A : Nat → Prop) (U : State) (H : Heap) : Prop :=
  va_Z "java/lang/String" "COMPACT_STRINGS" "Z" (.int 1) A U H ∧ va_Z "java/util/ArrayList" "DEFAULTCAPACITY_EMPTY_ELEMENTDATA" "[Ljava/lang/Object;" (.ref (dZ 0)) A U H ∧ va_T (.object "java/lang/Object") (dZ 0) 0 (fun _ => .null) A U H ∧
  va_Z "KindredBooks$Calendar" "LENGTHS" "[I" (.ref (dZ 1)) A U H ∧ va_T .int (dZ 1) 12 zLEN A U H ∧ vx_Zq Bundle.tN "UNASSIGNED_STACK" Bundle.steD A U H ∧ vx_Zq Bundle.tN "SUPPRESSED_SENTINEL" Bundle.listD A U H
theorem zE.moved {dZ : Nat → Nat} {A : Nat → Prop} {u U : State} {H : Heap} (hv : u.vm.Alike U.vm) (h : zE dZ A u H) : zE dZ A U H := by
  obtain ⟨h1, h2, h3, h4, h5, h6, h7⟩ := h
  exact ⟨h1.moved hv, h2.moved hv, h3.moved hv, h4.moved hv, h5.moved hv, vx_Zq.moved hv h6, vx_Zq.moved hv h7⟩
theorem zE.kept {dZ : Nat → Nat} {A : Nat → Prop} {U : State} {H H1 : Heap} (h : zE dZ A U H) (hq : ∀ a : Nat, a < H.size → ¬ A a → H1[a]? = H[a]?) : zE dZ A U H1 := by
  obtain ⟨h1, h2, h3, h4, h5, h6, h7⟩ := h
  exact ⟨h1.kept hq, h2.kept hq, h3.kept hq, h4.kept hq, h5.kept hq, h6.kept hq, h7.kept hq⟩
theorem zE.narrow {dZ : Nat → Nat} {A B : Nat → Prop} {U : State} {H : Heap} (h : zE dZ A U H) (hq : ∀ q, B q → A q) : zE dZ B U H := by
  obtain ⟨h1, h2, h3, h4, h5, h6, h7⟩ := h
  exact ⟨h1.narrow hq, h2.narrow hq, h3.narrow hq, h4.narrow hq, h5.narrow hq, h6.narrow hq, h7.narrow hq⟩
abbrev zP (D : va_G) (dA : Nat → ClassId) (dZ : Nat → Nat) (w : va_W) (sz : Nat) : State → Prop := fun U => U.heap.size = sz ∧ va_P D zcl w U.heap ∧ va_K D zcl (tz dA) U ∧ va_D (fun _ => True) w ∧ zT U ∧ zE dZ (va_A w sz) U U.heap
abbrev zB (D : va_G) (A : Nat → Prop) (w : va_W) (t : State) : Prop := va_P D zcl w t.heap ∧ va_D A w
theorem zblind {D : va_G} {dA : Nat → ClassId} {dZ : Nat → Nat} {w : va_W} {sz : Nat} {as : List Value} : FrameBlind (va_Pc as (zP D dA dZ w sz)) := fun a U g mk q => by
  obtain ⟨q0, q1, qP, qK, qD, qT, qE⟩ := q
  exact ⟨q0, q1, qP, va_K.moved (u := U) (U := U.calling g mk a) (Vm.Alike.refl U.vm) qK, qD, zT.same (u := U) (U := U.calling g mk a) rfl qT, zE.moved (u := U) (U := U.calling g mk a) (Vm.Alike.refl U.vm) qE⟩
theorem zPreS {s : State} {H : Heap} {D : va_G} {dA : Nat → ClassId} {dZ : Nat → Nat} {w : va_W} {A : Nat → Prop} {as : List Value} {locs : List Loc} (hP : va_P D zcl w H) (hK : va_K D zcl (tz dA) s) (hD : va_D A w) (hT : zT s) (hE : zE dZ A s s.heap) (hS : va_S A s.heap H locs) (hF : ∀ q, va_A w H.size q → A q) : PreS s H (va_Pc as (zP D dA dZ w H.size)) as :=
  ⟨zblind, fun U hU hW => ⟨rfl, by rw [hU], by rw [hU]; exact hP, va_K.moved hW.alike hK, hD.weaken (fun _ _ _ _ => trivial), hT.warm hW, by rw [hU]; exact ((hE.kept hS.2.1).narrow hF).moved hW.alike⟩⟩
theorem zPreV {s : State} {H : Heap} {D : va_G} {dA : Nat → ClassId} {dZ : Nat → Nat} {w : va_W} {A : Nat → Prop} {C : String} {b : Nat} {as : List Value} {locs : List Loc} (hP : va_P D zcl w H) (hK : va_K D zcl (tz dA) s) (hD : va_D A w) (hT : zT s) (hE : zE dZ A s s.heap) (hS : va_S A s.heap H locs) (hF : ∀ q, va_A w H.size q → A q) (hr : ∃ cell : Cell, H[b]? = some cell ∧ cell.vm.isStatics = false ∧ s.vm.findClass C = some cell.cls) : PreV s H C b (va_Pc (.ref b :: as) (zP D dA dZ w H.size)) as :=
  ⟨zblind, hr, (zPreS hP hK hD hT hE hS hF).2⟩
/-- a way out by an exception: which, and that nothing outside was written -/
def zX (E0 : String) (A : Nat → Prop) : String → State → State → Prop := fun E st t => E = E0 ∧ va_F A st t
def zNo : Array Value → State → Outcome → State → Prop := fun _ _ _ _ => False
theorem zX_of {A : Nat → Prop} {s t : State} {H : Heap} {locs : List Loc} {E0 : String} (hS : va_S A s.heap H locs) (h1 : H.size ≤ t.heap.size) (h2 : ∀ q : Nat, q < H.size → t.heap[q]? = H[q]?) : zX E0 A E0 s t := ⟨rfl, Nat.le_trans hS.1 h1, fun q hq hA => (h2 q (Nat.lt_of_lt_of_le hq hS.1)).trans (hS.2.1 q hq hA)⟩
theorem zX_at {A : Nat → Prop} {s t : State} {H : Heap} {locs : List Loc} {E0 : String} (hS : va_S A s.heap H locs) (h1 : t.heap = H) : zX E0 A E0 s t := zX_of hS (by rw [h1]; exact Nat.le_refl _) (fun q _ => by rw [h1])
theorem zx_call {p : Program} {l : Launch} {e : Env} {R : Room} {s : State} {m : MethodId} {args : Array Value} {below : List Frame} {meth : Method} {c : Code} {H : Heap} {locs : List Loc} {cells slots mc ms : Nat} {Q : State → Prop} {pc : Nat} {ls : Array Slot} {st0 rest : List Value} {E0 : String} {A0 A1 : Nat → Prop} {H0 : Heap} {free : Addr → Prop}
    (hr : vx_Run p l e R s m args below meth c H locs cells slots mc ms (F0 m pc ls st0) rest (fun _ _ _ => False) (zX E0 A1) free) (hS : va_S A0 H0 H locs) (hA : ∀ q, q < H.size → A1 q → A0 q) (hf : ∀ q, free q → A0 q)
    (kx : ∀ (ce : Cell) (q9 : Addr) (H1 : Heap) (locs1 : List Loc), H.size ≤ H1.size → (∀ q : Nat, q < H.size → ¬ A1 q → H1[q]? = H[q]?) → va_S A0 H0 H1 locs1 → H1[q9]? = some ce → ce.vm = .none → s.vm.findClass E0 = some ce.cls → vx_W p l e R s m args below meth c H1 locs1 (cells + mc) (slots + ms) Q (F0 m pc ls rest) q9) : W p l e R s m args below meth c H locs cells slots Q (F0 m pc ls st0) := by
  intro T hT X
  rcases hr T hT X with ⟨v, st₀, t, T', L, h0, X', hL, e1, e2, hq, st⟩ | ⟨q, st₀, t, T', L, E, ce, h0, X', hL, e1, e2, ⟨rfl, hF⟩, hce, hcv, hcl, st⟩
  · exact hq.elim
  · obtain ⟨k1, k2, k3⟩ := vx_keep h0 e1 hS hA hf hL hF
    obtain ⟨t2, a1, b1⟩ := kx ce q T'.heap (locs ++ L) k1 k2 k3 (by rw [e1]; exact hce) hcv hcl T' rfl X'
    exact ⟨t2, st.trans a1, b1⟩
theorem z_at {own : String} {ic : Nat} {X : String} {names : List String} {s : State} {args : Array Value} (hw : ∀ w ∈ W0, w.before args s = true) (hN : zN s) (h : ∀ w ∈ vx_atS own ic X names, w ∈ lw_tbl ∧ (goodWord w || isN w) = true) : ∀ w ∈ vx_atS own ic X names, w.before args s = true := fun w hm => by
  obtain ⟨h1, h2⟩ := h w hm
  rcases Bool.or_eq_true _ _ |>.mp h2 with h3 | h3
  · exact hw w (W0_of h1 h3)
  · exact hN.use w (N0_of h1 h3)

theorem z_cwV {R : Room} {s : State} {args : Array Value} {own C : String} {index : Nat} {y : MethodName} {bytes : ByteArray} {maxL : Nat} {ret : Option FieldType} {rm : Room} {mc ms : Nat} (n : Nat) (hw : ∀ w ∈ W0, w.before args s = true) (h1 : Cond.methodLink own index y ∈ W0) (h2 : Cond.instanceMethod y ∈ W0) (h3 : Cond.selects C y y ∈ W0) (h4 : Cond.initialized C ∈ W0) (h5 : Cond.code y bytes maxL ret ∈ W0) (hrc : rm.cells = mc) (hrs : rm.slots = ms)
    (hd : y.cls = C ∧ y.cls ≠ "java/lang/invoke/MethodHandle" ∧ y.cls ≠ "java/lang/invoke/VarHandle" ∧ (parseMethodDescriptor y.desc).map (fun d => d.parameters.length) = some n) (hR : rm.frames + 1 ≤ R.frames ∧ 8 + (maxL + 11) + rm.locals ≤ R.locals) : CallW R s args own C index y bytes maxL ret (wz y bytes maxL ret) rm mc ms n :=
  cwV n hw (fun w hw => by
    have g : ∀ {w : Cond}, w ∈ W0 → w ∈ W0 ∧ ((w.onTables && w.keeps) = true ∨ ∃ ty, w = .arrayClass ty) := fun h => ⟨h, good_of_word (W0_good h)⟩
    rcases List.mem_append.mp hw with hq | hq
    · simp only [List.mem_cons, List.not_mem_nil, or_false] at hq
      rcases hq with rfl | rfl | rfl | rfl
      · exact g h1
      · exact g h2
      · exact g h3
      · exact g h4
    · exact wz_in h5 w hq) rfl hrc hrs hd hR
theorem z_cwS {R : Room} {s : State} {args : Array Value} {own : String} {index : Nat} {y : MethodName} {bytes : ByteArray} {maxL : Nat} {ret : Option FieldType} {rm : Room} {mc ms : Nat} (n : Nat) (hw : ∀ w ∈ W0, w.before args s = true) (h1 : Cond.methodLink own index y ∈ W0) (h2 : Cond.static y ∈ W0) (h4 : Cond.initialized y.cls ∈ W0) (h5 : Cond.code y bytes maxL ret ∈ W0) (hrc : rm.cells = mc) (hrs : rm.slots = ms)
    (hd : y.cls ≠ "java/lang/invoke/MethodHandle" ∧ y.cls ≠ "java/lang/invoke/VarHandle" ∧ (parseMethodDescriptor y.desc).map (fun d => d.parameters.length) = some n) (hR : rm.frames + 1 ≤ R.frames ∧ 8 + (maxL + 11) + rm.locals ≤ R.locals) : CallB R s args own index y bytes maxL ret (wz y bytes maxL ret) rm mc ms n ∧ (Cond.static y).before args s = true :=
  ⟨callB_of n hw (wz_in h5) rfl hrc hrs (hw _ h4) (hw _ h1) hd hR, hw _ h2⟩
theorem z_cwI {R : Room} {s : State} {args : Array Value} {own : String} {index : Nat} {y : MethodName} {bytes : ByteArray} {maxL : Nat} {rm : Room} {mc ms : Nat} (n : Nat) (hw : ∀ w ∈ W0, w.before args s = true) (h1 : Cond.methodLink own index y ∈ W0) (h2 : Cond.instanceMethod y ∈ W0) (h4 : Cond.initialized y.cls ∈ W0) (h5 : Cond.code y bytes maxL none ∈ W0) (hrc : rm.cells = mc) (hrs : rm.slots = ms) (hy1 : y.name = "<init>")
    (hd : y.cls ≠ "java/lang/invoke/MethodHandle" ∧ y.cls ≠ "java/lang/invoke/VarHandle" ∧ (parseMethodDescriptor y.desc).map (fun d => d.parameters.length) = some n) (hR : rm.frames + 1 ≤ R.frames ∧ 8 + (maxL + 11) + rm.locals ≤ R.locals) : CallB R s args own index y bytes maxL none (wz y bytes maxL none) rm mc ms n ∧ y.name = "<init>" ∧ (Cond.instanceMethod y).before args s = true :=
  cwI n hw (wz_in h5) rfl hrc hrs (hw _ h4) (hw _ h1) (hw _ h2) hy1 hd hR
theorem z_cwVN {R : Room} {s : State} {args : Array Value} {own C : String} {index : Nat} {y : MethodName} {host : String} {bytes : ByteArray} {maxL : Nat} {ret : Option FieldType} {rm : Room} {mc ms : Nat} (n : Nat) (hw : ∀ w ∈ W0, w.before args s = true) (hN : zN s) (h1 : Cond.methodLinkNest own index y host ∈ N0) (h2 : Cond.instanceMethod y ∈ W0) (h3 : Cond.selects C y y ∈ W0) (h4 : Cond.initialized y.cls ∈ W0) (h5 : Cond.code y bytes maxL ret ∈ W0) (hrc : rm.cells = mc) (hrs : rm.slots = ms)
    (hd : y.cls ≠ "java/lang/invoke/MethodHandle" ∧ y.cls ≠ "java/lang/invoke/VarHandle" ∧ (parseMethodDescriptor y.desc).map (fun d => d.parameters.length) = some n) (hR : rm.frames + 1 ≤ R.frames ∧ 8 + (maxL + 11) + rm.locals ≤ R.locals) : va_CN R s args own index y host bytes maxL ret (wz y bytes maxL ret) rm mc ms n ∧ (Cond.instanceMethod y).before args s = true ∧ (Cond.selects C y y).before args s = true :=
  ⟨va_cnB n hw (wz_in h5) rfl hrc hrs (hN _ h1) (hw _ h4) hd hR, hw _ h2, hw _ h3⟩
theorem z_cwSN {R : Room} {s : State} {args : Array Value} {own : String} {index : Nat} {y : MethodName} {host : String} {bytes : ByteArray} {maxL : Nat} {ret : Option FieldType} {rm : Room} {mc ms : Nat} (n : Nat) (hw : ∀ w ∈ W0, w.before args s = true) (hN : zN s) (h1 : Cond.methodLinkNest own index y host ∈ N0) (h2 : Cond.static y ∈ W0) (h4 : Cond.initialized y.cls ∈ W0) (h5 : Cond.code y bytes maxL ret ∈ W0) (hrc : rm.cells = mc) (hrs : rm.slots = ms)
    (hd : y.cls ≠ "java/lang/invoke/MethodHandle" ∧ y.cls ≠ "java/lang/invoke/VarHandle" ∧ (parseMethodDescriptor y.desc).map (fun d => d.parameters.length) = some n) (hR : rm.frames + 1 ≤ R.frames ∧ 8 + (maxL + 11) + rm.locals ≤ R.locals) : va_CN R s args own index y host bytes maxL ret (wz y bytes maxL ret) rm mc ms n ∧ (Cond.static y).before args s = true ∧ True :=
  ⟨va_cnB n hw (wz_in h5) rfl hrc hrs (hN _ h1) (hw _ h4) hd hR, hw _ h2, trivial⟩
theorem z_cwIN {R : Room} {s : State} {args : Array Value} {own : String} {index : Nat} {y : MethodName} {host : String} {bytes : ByteArray} {maxL : Nat} {rm : Room} {mc ms : Nat} (n : Nat) (hw : ∀ w ∈ W0, w.before args s = true) (hN : zN s) (h1 : Cond.methodLinkNest own index y host ∈ N0) (h2 : Cond.instanceMethod y ∈ W0) (h4 : Cond.initialized y.cls ∈ W0) (h5 : Cond.code y bytes maxL none ∈ W0) (hrc : rm.cells = mc) (hrs : rm.slots = ms) (hy1 : y.name = "<init>")
    (hd : y.cls ≠ "java/lang/invoke/MethodHandle" ∧ y.cls ≠ "java/lang/invoke/VarHandle" ∧ (parseMethodDescriptor y.desc).map (fun d => d.parameters.length) = some n) (hR : rm.frames + 1 ≤ R.frames ∧ 8 + (maxL + 11) + rm.locals ≤ R.locals) : va_CN R s args own index y host bytes maxL none (wz y bytes maxL none) rm mc ms n ∧ y.name = "<init>" ∧ (Cond.instanceMethod y).before args s = true :=
  ⟨va_cnB n hw (wz_in h5) rfl hrc hrs (hN _ h1) (hw _ h4) hd hR, hy1, hw _ h2⟩
theorem z_RA {U : State} {a b : ClassId} {ty : FieldType} (h1 : va_RA U a ty) (h2 : va_RA U b ty) : a = b := by
  cases ty with
  | object C =>
    obtain ⟨_, _, _, _, _, h3⟩ := h1
    obtain ⟨_, _, _, _, _, h4⟩ := h2
    exact Option.some.inj (h3.symm.trans h4)
  | _ => exact Option.some.inj (Eq.trans (Eq.symm h1) h2)
section ZNEW
variable {p : Program} {l : Launch} {e : Env} {R : Room} {s : State} {m : MethodId} {args : Array Value} {below : List Frame} {meth : Method} {c : Code} {H : Heap} {locs : List Loc} {cells slots : Nat} {Q : State → Prop} {cc : ByteArray} {D : va_G} {cl : List vw_C} {ws : va_W} {tys : List (ClassId × FieldType)} {A : Nat → Prop} {H0 : Heap} {pc : Nat} {ls : Array Slot} {rest : List Value}
/-- a new array of numbers, of one of the classes that are known already -/
theorem zz_newa (hexec : p.tables.exec = Jvm.exec) (hb : c.code = cc) {atype : ArrayType} (harr : (Cond.arrayClass (newarray.typeOf atype)).before args s = true) {ty : FieldType} (hty : newarray.typeOf atype = ty) (hK : va_K D cl tys s) {t : Nat} {cB : ClassId} (ht : tys[t]? = some (cB, ty)) (hP : va_P D cl ws H) (hD : va_D A ws) (hS : va_S A H0 H locs) (hA : ∀ q, H0.size ≤ q → A q)
    {n : Int32} {N' : Nat} {a0 : vp_A} (ha : ∀ cA : ClassId, vp_cell cA a0 = arrV cA N' (fun _ => defaultValue ty)) (hn : ¬ n < 0) (hN : n.toNatClampNeg = N') (hbytes : N' * componentBytes ty ≤ 536870912) (hcells : cells + 1 ≤ R.cells) (hslots : slots + N' ≤ R.slots) (hdg : decode cc pc = .ok (.newarray atype, 2))
    (kk : ∀ (q : Nat) (H1 : Heap), va_P D cl (ws ++ [(q, .inl (cB, a0))]) H1 → va_D A (ws ++ [(q, .inl (cB, a0))]) → va_S A H0 H1 locs →
      W p l e R s m args below meth c H1 locs (cells + 1) (slots + N') Q (F0 m (pc + 2) ls (.ref q :: rest))) : W p l e R s m args below meth c H locs cells slots Q (F0 m pc ls (.int n :: rest)) :=
  va_newa hexec hb harr hty hK hP hD hS hA ha hn hN hbytes hcells hslots hdg (fun q cA H1 hK1 hP1 hD1 hS1 => by
    have h1 := (hK1.2 tys.length (cA, ty) (by rw [List.getElem?_append_right (Nat.le_refl _), Nat.sub_self]; rfl)).2
    obtain rfl : cA = cB := z_RA h1 (hK.2 t _ ht).2
    exact kk q H1 hP1 hD1 hS1)
/-- a new array of references, of one of the classes that are known already -/
theorem zz_newq (hexec : p.tables.exec = Jvm.exec) (hb : c.code = cc) {own C : String} {index : Nat} (hown : s.vm.findClass own = some m.cls) (hclink : (Cond.classLink own index C).before args s = true) (hover : (Cond.arrayOver (.object C)).before args s = true) (hK : va_K D cl tys s) {t : Nat} {cB : ClassId} (ht : tys[t]? = some (cB, .object C)) (hP : va_P D cl ws H) (hD : va_D A ws) (hS : va_S A H0 H locs) (hA : ∀ q, H0.size ≤ q → A q)
    {n : Int32} {N' : Nat} (hn : ¬ n < 0) (hN : n.toNatClampNeg = N') (hbytes : N' * 4 ≤ 536870912) (hcells : cells + 1 ≤ R.cells) (hslots : slots + N' ≤ R.slots) (hdg : decode cc pc = .ok (.anewarray index, 3))
    (kk : ∀ (q : Nat) (H1 : Heap), va_P D cl (ws ++ [(q, .inl (cB, N', .inr (.inr (.inr (.inr (fun _ => none))))))]) H1 → va_D A (ws ++ [(q, .inl (cB, N', .inr (.inr (.inr (.inr (fun _ => none))))))]) → va_S A H0 H1 locs →
      W p l e R s m args below meth c H1 locs (cells + 1) (slots + N') Q (F0 m (pc + 3) ls (.ref q :: rest))) : W p l e R s m args below meth c H locs cells slots Q (F0 m pc ls (.int n :: rest)) :=
  va_newq hexec hb hown hclink (va_AO.of hover) hK hP hD hS hA hn hN hbytes hcells hslots hdg (fun q cA H1 hK1 hP1 hD1 hS1 => by
    have h1 := (hK1.2 tys.length (cA, .object C) (by rw [List.getElem?_append_right (Nat.le_refl _), Nat.sub_self]; rfl)).2
    obtain rfl : cA = cB := z_RA h1 (hK.2 t _ ht).2
    exact kk q H1 hP1 hD1 hS1)
end ZNEW
end
section
def znX : String := "java/util/NoSuchElementException"
def znB : ByteArray := prog_50_method_4_code
theorem zn_0 : decode znB 0 = .ok (.aload_n 0, 1) := by decide +kernel
theorem zn_1 : decode znB 1 = .ok (.aload_n 1, 1) := by decide +kernel
theorem zn_2 : decode znB 2 = .ok (.invokespecial 13, 3) := by decide +kernel
theorem zn_5 : decode znB 5 = .ok (.return_, 1) := by decide +kernel
def znL (own : String) (ic : Nat) : List Cond :=
  [.methodLink own ic (Bundle.initS znX), .instantiable znX 6, .castable znX znX, .selects znX Bundle.tFill0 Bundle.tFill0, .selects znX Bundle.tFill Bundle.tFill,
   .lays znX Bundle.tN "cause" "Ljava/lang/Throwable;", .lays znX Bundle.tN "stackTrace" Bundle.steD, .lays znX Bundle.tN "suppressedExceptions" Bundle.listD, .lays znX Bundle.tN "detailMessage" "Ljava/lang/String;",
   .isRef (.static Bundle.tN "UNASSIGNED_STACK" Bundle.steD), .isRef (.static Bundle.tN "SUPPRESSED_SENTINEL" Bundle.listD),
   .fieldLink Bundle.tN 198 Bundle.tN "backtrace" "Ljava/lang/Object;", .lays Bundle.tN Bundle.tN "backtrace" "Ljava/lang/Object;", .lays znX Bundle.tN "backtrace" "Ljava/lang/Object;"]
def znW (own : String) (ic : Nat) : List Cond :=
  Bundle.throwableAtoms ++ Bundle.throwableSAtoms ++ (Bundle.passSAtoms znX "java/lang/RuntimeException" 13 znB ++ Bundle.chainSAtoms "java/lang/RuntimeException" ["java/lang/Exception"]) ++ znL own ic
def zn_at (own : String) (ic : Nat) : List Cond := (znW own ic).filter vx_no
set_option maxHeartbeats 4000000 in
set_option maxRecDepth 100000 in
theorem zn_ctor {p : Program} {l : Launch} {e : Env} {R : Room} {s : State} {m₀ : MethodId} {args : Array Value} {below : List Frame} {meth : Method} {c : Code} {W : State} {locs : List Loc} {cells slots : Nat} (X : Stand p l e R s m₀ args below meth c W locs cells slots) (hexec : p.tables.exec = Jvm.exec) (htr : e.platform.stackTraces = false) {own : String} {ic : Nat}
    (hown : s.vm.findClass own = some m₀.cls)
    (h : ∀ a ∈ znW own ic, a.before args s = true)
    (hlocs : ∀ x ∈ locs, ∀ cell, s.heap[x.base]? = some cell → cell.vm.isStatics = false)
    {a : Addr} {cX : ClassId} {kX : Class} (hfoundX : s.vm.findClass znX = some cX) (hkX : s.vm.classes[cX]? = some kX) (hcell : W.heap[a]? = some (freshCell cX kX)) (hnew : s.heap.size ≤ a)
    {msg : Value} (hmsg : msg.isRef = true)
    {g : JFrame} (hg : g.method = m₀) (hsize : g.locals.size = c.maxLocals) (hlocked : g.locked = none) (hentered : g.entered = []) {rest : List Value} (hstack : g.stack = msg :: .ref a :: .ref a :: rest)
    (hd6 : decode c.code g.pc = .ok (.invokespecial ic, 3)) (hd9 : decode c.code (g.pc + 3) = .ok (.athrow, 1)) (hout : ∀ x ∈ c.exceptionTable.toList, covers x (g.pc + 3) = false)
    (hRframes : 5 < R.frames) (hRlocals : 2 * g.monitorRoom + ((Value.ref a :: rest).map fun v => v.category).sum + (81) ≤ R.locals) (hlocks : meth.locks = false := by first | assumption | exact BodyLoose.notSynchronized (by assumption) | exact Body.notSynchronized (by assumption)) :
    ∃ U : State, Steps p.tables e below (W.setTop g) U ∧ U.status = .running ∧ Ended U below (.threw a) ∧ s.WarmedH U.vm ∧ s.sameButNew ({ U with vm := s.vm } : State) locs cells slots ∧
      ∃ ce, U.heap[a]? = some ce ∧ ce.vm = .none ∧ s.vm.findClass znX = some ce.cls := by
  have howns : e.platform.frameOwnsMonitors = true := by rw [X.admits.platform]
  have hfin : e.platform.finalization = false := by rw [X.admits.platform]
  have hpl : e.platform.magicAccessors = ({} : Platform).magicAccessors := by rw [X.admits.platform]
  have a' : ∀ x, x ∈ znW own ic → x.holds args s none s [] = true := fun x hx => h x hx
  obtain ⟨T, Z0, L, -, Y⟩ := ThrowableC.of_atoms (args := args) howns hfin hpl (fun x hx => h x (by simp [znW, hx]))
  obtain ⟨Z, M, LZ, LM, hnZ⟩ := Init0T.ofS_atoms (args := args) hpl L Y (fun x hx => h x (by simp [znW, hx]))
  obtain ⟨P1, L1, hP1m, hP1s⟩ := PassC.ofS_atoms (args := args) (s := s) hpl (X := znX) (Y := "java/lang/RuntimeException") (by decide) (by decide) zn_0 zn_1 zn_2 zn_5 (fun x hx => h x (by simp only [znW, List.mem_append]; exact Or.inl (Or.inr (Or.inl hx))))
  obtain ⟨P2, Ps, hlen, L2, hL, hP2m, hlink1, hlink⟩ := Bundle.chainS (args := args) hpl hnZ ["java/lang/Exception"] "java/lang/RuntimeException" (by decide) (by decide) (fun x hx => h x (by simp only [znW, List.mem_append]; exact Or.inl (Or.inr (Or.inr hx))))
              
  have hfound : s.vm.findClass znX = some P1.m.cls := findClass_of_methodNamed hP1m
  cases Option.some.inj (hfoundX.symm.trans hfound)
  obtain ⟨c1, kX', hc1, hk, hord, -, -, hn6⟩ := Cond.instantiable_spec (a' (.instantiable znX 6) (by simp [znW, znL]))
  cases Option.some.inj (hc1.symm.trans hfound)
  cases Option.some.inj (hkX.symm.trans hk)
  have hsel0 : selectMethod e.platform s.vm P1.m.cls T.fill0 = .method T.fill0 := by
    obtain ⟨c2, r2, m2, q1, q2, q3, q4, -⟩ := Cond.selects_spec (a' (.selects znX Bundle.tFill0 Bundle.tFill0) (by simp [znW, znL]))
    cases Option.some.inj (q1.symm.trans hfound)
    cases Option.some.inj (q2.symm.trans (State.methodFound?_of_named Y.fill0 (by decide)))
    cases Option.some.inj (q3.symm.trans Y.fill0)
    rw [Launch.admits_selectMethod X.admits]; exact q4
  have hselF : selectMethod e.platform s.vm P1.m.cls T.fill = .method T.fill := by
    obtain ⟨c2, r2, m2, q1, q2, q3, q4, -⟩ := Cond.selects_spec (a' (.selects znX Bundle.tFill Bundle.tFill) (by simp [znW, znL]))
    cases Option.some.inj (q1.symm.trans hfound)
    cases Option.some.inj (q2.symm.trans (State.methodFound?_of_named Y.fill (by decide)))
    cases Option.some.inj (q3.symm.trans Y.fill)
    rw [Launch.admits_selectMethod X.admits]; exact q4
  obtain ⟨cellS0, hcS0, hiss⟩ := Y.statics
  obtain ⟨u0, hu0⟩ := Cond.staticRefV Y.unassigned L.unassignedStatic L.statics hcS0 hiss (a' (.isRef (.static Bundle.tN "UNASSIGNED_STACK" Bundle.steD)) (by simp [znW, znL]))
  obtain ⟨sen, hsen⟩ := Cond.staticRefV Y.sentinel L.sentinelStatic L.statics hcS0 hiss (a' (.isRef (.static Bundle.tN "SUPPRESSED_SENTINEL" Bundle.listD)) (by simp [znW, znL]))
  obtain ⟨ci198, i198, fB, hk198, hg198, ha198, hsB, -, hnB, htB, hffB⟩ := Cond.ownField (t := .object "java/lang/Object") Y.found L.cls (by decide +kernel) (a' (.fieldLink Bundle.tN 198 Bundle.tN "backtrace" "Ljava/lang/Object;") (by simp [znW, znL])) (a' (.lays Bundle.tN Bundle.tN "backtrace" "Ljava/lang/Object;") (by simp [znW, znL])) e.platform hpl
  obtain ⟨cellS, hcS', heS, -, hkeep⟩ := X.same.2.2.2.2.2 T.aS cellS0 hcS0
  have hcellS : W.heap[T.aS]? = some cellS := hcS'
  have hout' : ∀ i, (⟨T.aS, i⟩ : Loc) ∉ locs := fun i hmem => by
    have := hlocs _ hmem cellS0 hcS0
    rw [hiss] at this; cases this
  have hknownS : cellS.vm ≠ .unknown := by
    rw [heS]; intro hu
    rw [show cellS0.vm = .unknown from hu] at hiss
    cases hiss
  have hneS : T.aS ≠ a := Nat.ne_of_lt (Nat.lt_of_lt_of_le (Array.getElem?_eq_some_iff.mp hcS0).1 hnew)
  obtain ⟨iM, hffM⟩ := Y.msg
  obtain ⟨tyC, dC, hdC, hdnC⟩ := Cond.laysAt hfound hk Y.cause (a' (.lays znX Bundle.tN "cause" "Ljava/lang/Throwable;") (by simp [znW, znL]))
  obtain ⟨tyS, dS, hdS, hdnS⟩ := Cond.laysAt hfound hk Y.stack (a' (.lays znX Bundle.tN "stackTrace" Bundle.steD) (by simp [znW, znL]))
  obtain ⟨tyP, dP, hdP, hdnP⟩ := Cond.laysAt hfound hk Y.supp (a' (.lays znX Bundle.tN "suppressedExceptions" Bundle.listD) (by simp [znW, znL]))
  obtain ⟨tyM, dM, hdM, hdnM⟩ := Cond.laysAt hfound hk hffM (a' (.lays znX Bundle.tN "detailMessage" "Ljava/lang/String;") (by simp [znW, znL]))
  obtain ⟨tyB, dB, hdB, hdnB⟩ := Cond.laysAt hfound hk hffB (a' (.lays znX Bundle.tN "backtrace" "Ljava/lang/Object;") (by simp [znW, znL]))
  have bC := Cond.laysApart hdB hdC hdnB hdnC (by rw [hnB, Y.causeName]; decide)
  have bS := Cond.laysApart hdB hdS hdnB hdnS (by rw [hnB, Y.stackName]; decide)
  have bP := Cond.laysApart hdB hdP hdnB hdnP (by rw [hnB, Y.suppName]; decide)
  have hskip : SkipFacts T e.platform s (fun u => u) u0 ((preparedCellV T.toThrowableT (freshCell P1.m.cls kX) a u0 sen).withEntry W.cur) :=
    ⟨{ ci198 := ci198, i198 := i198, fBack := fB }, ⟨hk198, hg198, ha198, hsB⟩, by
      have := fresh_default (c := P1.m.cls) tyB
      rw [htB] at this
      simpa [preparedCellV, Cell.setSlot, Cell.withEntry, Array.getElem?_setIfInBounds, bC, bS, bP, bC.symm, bS.symm, bP.symm, defaultValue] using this, fun _ _ => rfl⟩
                                     
  obtain ⟨tm, methC, cdC, kC, vm₁, hnC, -, -, -, -, -, -, -, hW₁, st1⟩ := Steps.initColdS (tb := p.tables) (e := e) (below := below) (s := s) (U := W) X.here hexec X.warmed hpl hown (t := Bundle.initS znX) rfl rfl ⟨by decide, by decide⟩
    (a' (.methodLink own ic (Bundle.initS znX)) (by simp [znW, znL])) (h (.instanceMethod (Bundle.initS znX)) (by simp [znW, Bundle.passSAtoms])) (bytes := znB) (maxL := 2) (h (.code (Bundle.initS znX) znB 2 none) (by simp [znW, Bundle.passSAtoms]))
    (f := g) hg (a := a) (msg := msg) (rest := .ref a :: rest) hstack hd6
  cases Option.some.inj (hnC.symm.trans hP1m)
  have X₁ := X.noted hW₁
                                 
  obtain ⟨vm₂, X₂, st2⟩ := X₁.ctorMessageOffV hexec (g := { g with stack := .ref a :: rest }) hg hsize T L Z LZ M LM (P1 :: P2 :: Ps)
    (fun P hP => by rcases List.mem_cons.mp hP with rfl | hP; exact L1; rcases List.mem_cons.mp hP with rfl | hP; exact L2; exact hL P hP) ⟨Option.some.inj (hP1s.symm.trans hP2m), hlink1, hlink⟩ (u0 := u0) (sen := sen) (self := a) hmsg (cell := freshCell P1.m.cls kX) (cellS := cellS)
    hcell (fun _ => by simp) (by simp) rfl rfl hsel0 hselF hcellS hneS hknownS (by rw [hkeep _ (hout' _)]; exact hu0) (by rw [hkeep _ (hout' _)]; exact hsen)
    (Takes.of_laid hk hord tyC (by rw [Y.causeType]; rfl)) (Takes.of_laid hk hord tyS (by rw [Y.stackType]; exact fits_refV_array _ u0)) (Takes.of_laid hk hord tyP (by rw [Y.suppType]; exact fits_refV_object _ sen))
    (Takes.of_laid hk hord tyM (by rw [Y.msgType]; exact fits_refV_object _ ⟨msg, hmsg⟩)) Y.objLocals hskip htr [] hd6
    (by simp only [List.length_cons, hlen, List.length_nil]; omega) (by simp only [List.length_cons, hlen, List.length_nil]; exact hRlocals)
                                    
  obtain ⟨hwalk, hrun, hended, hWU, hsame⟩ := X₂.athrowLeaves hexec (g := { g with stack := .ref a :: rest, pc := g.pc + 3 }) hg hlocked hentered hout (a := a) (rest := rest) rfl hd9
  obtain ⟨c3, c4, hc3, hc4, hasg⟩ := Cond.castable_spec (a' (.castable znX znX) (by simp [znW, znL]))
  cases Option.some.inj (hc3.symm.trans hfound)
  cases Option.some.inj (hc4.symm.trans hfound)
  have hlt : a < ((W.setVm vm₁).setVm vm₂).heap.size := (Array.getElem?_eq_some_iff.mp hcell).1
  have hU := heapAt_setCell_self (s := (W.setVm vm₁).setVm vm₂) (plainBareV T.toThrowableT (freshCell P1.m.cls kX) a u0 sen msg) hlt
  have hnM : T.fMsg.name = "detailMessage" := (State.fieldFound?_type hffM (t := .object "java/lang/String") (by decide +kernel)).1
  have nCS := Cond.laysApart hdC hdS hdnC hdnS (by rw [Y.causeName, Y.stackName]; decide)
  have nCP := Cond.laysApart hdC hdP hdnC hdnP (by rw [Y.causeName, Y.suppName]; decide)
  have nCM := Cond.laysApart hdC hdM hdnC hdnM (by rw [Y.causeName, hnM]; decide)
  have nSP := Cond.laysApart hdS hdP hdnS hdnP (by rw [Y.stackName, Y.suppName]; decide)
  have nSM := Cond.laysApart hdS hdM hdnS hdnM (by rw [Y.stackName, hnM]; decide)
  have nPM := Cond.laysApart hdP hdM hdnP hdnM (by rw [Y.suppName, hnM]; decide)
  have lC : T.fCause.slot < kX.instanceTypes.size := (Array.getElem?_eq_some_iff.mp tyC).1
  have lS : T.fStack.slot < kX.instanceTypes.size := (Array.getElem?_eq_some_iff.mp tyS).1
  have lP : T.fSupp.slot < kX.instanceTypes.size := (Array.getElem?_eq_some_iff.mp tyP).1
  have lM : T.fMsg.slot < kX.instanceTypes.size := (Array.getElem?_eq_some_iff.mp tyM).1
  have evU : ∀ o, (Term.static Bundle.tN "UNASSIGNED_STACK" Bundle.steD).eval args s o [] s = some u0.v := by
    intro o
    simp [Term.eval, State.fieldNamed?, Y.unassigned, L.unassignedStatic, L.statics, hcS0, hiss, hu0]
  have evS : ∀ o, (Term.static Bundle.tN "SUPPRESSED_SENTINEL" Bundle.listD).eval args s o [] s = some sen.v := by
    intro o
    simp [Term.eval, State.fieldNamed?, Y.sentinel, L.sentinelStatic, L.statics, hcS0, hiss, hsen]
  refine ⟨_, st1 _ (fun acts => ?_), hrun, hended, hWU, hsame.weaken (fun y hy hlt' => ?_) (Nat.le_refl _) (Nat.le_refl _), _, hU, rfl, hfound⟩
  · rw [doInvoke_state]
    exact st2 _ hwalk
  · rcases List.mem_append.mp hy with h1 | h1
    · exact h1
    · exfalso
      have hb : y.base = a := by
        simp only [List.mem_cons, List.not_mem_nil, or_false] at h1
        rcases h1 with rfl | rfl | rfl | rfl | rfl <;> rfl
      rw [hb] at hlt'
      exact Nat.not_lt.mpr hnew hlt'
set_option maxHeartbeats 4000000 in
set_option maxRecDepth 100000 in
theorem zn_throwSW {p : Program} {l : Launch} {e : Env} {R : Room} {s : State} {m : MethodId} {args : Array Value} {below : List Frame} {meth : Method} {c : Code} {H : Heap} {locs : List Loc} {cells slots : Nat} {Qc : Array Value → State → Outcome → State → Prop} {XC : String → State → State → Prop} {free : Addr → Prop} {ls : Array Slot} {rest : List Value} {cc : ByteArray} {pc : Nat} (hexec : p.tables.exec = Jvm.exec) (hb : c.code = cc) (hl : l.stackTraces = false) {own text : String} {ik is ic mc ms sa : Nat} {A : Nat → Prop}
    (hown : s.vm.findClass own = some m.cls)
    (hk : (Cond.classLink own ik znX).before args s = true) (hini : (Cond.initialized znX).before args s = true) (hstr : vk_R own is text sa s) (hat : ∀ w ∈ zn_at own ic, w.before args s = true)
    (hgood : ∀ w ∈ Cond.classLink own ik znX :: Cond.initialized znX :: zn_at own ic, vx_ot w = true)
    (hU : vx_Zq Bundle.tN "UNASSIGNED_STACK" Bundle.steD A s s.heap) (hN : vx_Zq Bundle.tN "SUPPRESSED_SENTINEL" Bundle.listD A s s.heap) (hS : va_S A s.heap H locs) (hsize : ls.size = c.maxLocals)
    (d0 : decode cc pc = .ok (.new ik, 3)) (d3 : decode cc (pc + 3) = .ok (.dup, 1)) (d4 : decode cc (pc + 4) = .ok (.ldc_w is, 3)) (d7 : decode cc (pc + 7) = .ok (.invokespecial ic, 3)) (d10 : decode cc (pc + 10) = .ok (.athrow, 1))
    (hout : ∀ x ∈ c.exceptionTable.toList, covers x (pc + 10) = false)
    (hRframes : 5 < R.frames) (hRlocals : (rest.map fun v => v.category).sum + (82) ≤ R.locals) (hRcells : cells + 1 ≤ R.cells) (hRslots : slots + 6 ≤ R.slots) (hlocks : meth.locks = false)
    (hx : ∀ t : State, s.vm.Alike t.vm → H.size ≤ t.heap.size → (∀ q : Nat, q < H.size → t.heap[q]? = H[q]?) → XC znX s t)
    (hf : ∀ z ∈ locs, free z.base) (hc : cells + 1 ≤ mc) (hs : slots + 6 ≤ ms) :
    W p l e R s m args below meth c H locs cells slots (vx_MQ below Qc XC args s mc ms free) (F0 m pc ls rest) := by
  intro T hT X
  have htr : e.platform.stackTraces = false := (show e.platform.stackTraces = l.stackTraces by rw [X.admits.platform]).trans hl
  have Y := vx_rebase X (R' := { frames := R.frames, locals := R.locals, cells := 1, slots := 6 }) (Nat.le_refl _) (Nat.le_refl _) hRcells hRslots
  obtain ⟨s', hA⟩ : ∃ z, z = (T.setVm s.vm).setFrames (.invoking m args :: below) := ⟨_, rfl⟩
  rw [← hA] at Y
  have hvm : s'.vm = s.vm := by rw [hA]; rfl
  have hhp : s'.heap = H := by rw [hA]; exact hT
  have hW0 : s.WarmedH s'.vm := by rw [hvm]; exact State.WarmedH.refl s
  have hat' : ∀ w ∈ zn_at own ic, w.before args s' = true := fun w hw => vx_ot_at hW0 hvm.symm (hgood w (List.mem_cons_of_mem _ (List.mem_cons_of_mem _ hw))) (hat w hw)
  have hk' : (Cond.classLink own ik znX).before args s' = true := vx_ot_at hW0 hvm.symm (hgood _ List.mem_cons_self) hk
  have hini' : (Cond.initialized znX).before args s' = true := vx_ot_at hW0 hvm.symm (hgood _ (List.mem_cons_of_mem _ List.mem_cons_self)) hini
  have hU' : vx_Zq Bundle.tN "UNASSIGNED_STACK" Bundle.steD A s' s'.heap := by rw [hhp]; exact vx_Zq.moved hW0.alike (hU.kept hS.2.1)
  have hN' : vx_Zq Bundle.tN "SUPPRESSED_SENTINEL" Bundle.listD A s' s'.heap := by rw [hhp]; exact vx_Zq.moved hW0.alike (hN.kept hS.2.1)
  have h : ∀ w ∈ znW own ic, w.before args s' = true := vx_own hat' (vx_isRefq hU'.1) (vx_isRefq hN'.1) hU'.2.word hN'.2.word
  have hown' : s'.vm.findClass own = some m.cls := by rw [hvm]; exact hown
  have hins : (Cond.instantiable znX 6).before args s' = true := h _ (by simp [znW, znL])
  obtain ⟨vm₁, cX, kX, hfX, hkX, -, -, X₁, st1⟩ := Y.newCold hexec (own := own) (C := znX) (index := ik) (n := 6) hown' hk' hins hini'
    (g := F0 m pc ls rest) rfl (by rw [hb]; exact d0) (Nat.le_refl _) (Nat.le_refl _)
  generalize hT1 : (T.setVm vm₁).pushCell { cls := cX, slots := kX.instanceTypes.map defaultValue, vm := .none } = T1 at X₁ st1
  have hcat : (Value.ref T.heap.size).category = 1 := rfl
  have hcellA : T1.heap[T.heap.size]? = some (freshCell cX kX) := by rw [← hT1]; exact State.heap_pushCell_size _ _
  have d3' : decode c.code (pc + 3) = .ok (.dup, 1) := by rw [hb]; exact d3
  have d4' : decode c.code (pc + 4) = .ok (.ldc_w is, 3) := by rw [hb]; exact d4
  have hstr' : vk_R own is text sa s' := vk_R.warm hW0 hstr
  obtain ⟨U, hsteps, hrun, hend, hW, hsame, ce, hce, hOv, hOc⟩ := zn_ctor X₁ hexec htr (own := own) (ic := ic) hown' h (fun x hx => nomatch hx) hfX hkX hcellA (by rw [hhp, hT]; exact Nat.le_refl _) (msg := .ref sa) rfl
    (g := { method := m, pc := pc + 7, locals := ls, stack := .ref sa :: .ref T.heap.size :: .ref T.heap.size :: rest, locked := none }) rfl hsize rfl rfl (rest := rest) rfl
    (by rw [hb]; exact d7) (by rw [hb]; exact d10) hout hRframes (by simp only [List.map_cons, List.sum_cons, hcat]; omega) hlocks
  obtain ⟨f1, f2⟩ := vx_frame hsame
  rw [hhp] at f1 f2
  have hWs : s.WarmedH U.vm := State.WarmedH.trans hW0 hW
  have hcl : s.vm.findClass znX = some ce.cls := by
    have h9 := hOc
    rw [hvm] at h9
    exact h9
  have hall : s.sameButNew ({ U with vm := s.vm } : State) locs mc ms := by
    subst hA
    obtain ⟨e1, e2⟩ := hsame
    rw [State.setFrames_setFrames] at e1
    have h2 : (T.setVm s.vm).sameButNew ({ U with vm := s.vm } : State) [] (0 + 1) (0 + 6) := ⟨e1, e2⟩
    have h3 := X.same.trans h2
    rw [List.append_nil] at h3
    exact h3.mono hc hs
  refine ⟨U, ?_, .threw T.heap.size, hrun, hend, Or.inr ⟨T.heap.size, rfl, znX, ce, locs, hx U hWs.alike f1 (fun q hq => f2 q hq (fun z hz => nomatch hz)), hce, hOv, hcl, hWs, hall, hf⟩⟩
  refine st1 _ ?_
  show Steps p.tables e below (T1.setTop { method := m, pc := pc + 3, locals := ls, stack := .ref T.heap.size :: rest, locked := none }) _
  jvm_step X₁.here [X₁.here.top, hexec, d3', Value.category]
  exact X₁.ldcStringW hexec (own := own) (text := text) (index := is) (a := sa) hown' hstr'.1 hstr'.2
    (g := { method := m, pc := pc + 4, locals := ls, stack := .ref T.heap.size :: .ref T.heap.size :: rest, locked := none }) rfl d4' _ hsteps
theorem zn_ats {own : String} {ic : Nat} {s : State} {args : Array Value} (hw : ∀ w ∈ W0, w.before args s = true) (hN : zN s) (h : ∀ w ∈ zn_at own ic, w ∈ lw_tbl ∧ (goodWord w || isN w) = true) : ∀ w ∈ zn_at own ic, w.before args s = true := fun w hm => by
  obtain ⟨h1, h2⟩ := h w hm
  rcases Bool.or_eq_true _ _ |>.mp h2 with h3 | h3
  · exact hw w (W0_of h1 h3)
  · exact hN.use w (N0_of h1 h3)
end
section
abbrev cX10_empty : ByteArray := prog_12_method_4_code
def yX10_empty : MethodName := ⟨"KindredBooks$Text", "empty", "()V"⟩
theorem mw_390 : (Jvm.Cond.code ({ cls := "KindredBooks$Text", name := "empty", desc := "()V" } : Jvm.MethodName) prog_12_method_4_code (1 : Nat) (Option.none : Option Jvm.ClassFile.FieldType)) ∈ W0 := W0_of (List.mem_append_right _ (List.mem_of_getElem? (i := 390) (by decide +kernel))) rfl
theorem dX10_empty_0 : decode cX10_empty 0 = .ok (.aload_n 0, 1) := by decide +kernel
theorem dX10_empty_1 : decode cX10_empty 1 = .ok (.iconst 0, 1) := by decide +kernel
theorem dX10_empty_2 : decode cX10_empty 2 = .ok (.putfield 15, 3) := by decide +kernel
theorem mw_58 : (Jvm.Cond.fieldLink "KindredBooks$Text" (15 : Nat) "KindredBooks$Text" "length" "I") ∈ W0 := W0_of (List.mem_append_right _ (List.mem_of_getElem? (i := 58) (by decide +kernel))) rfl
theorem dX10_empty_5 : decode cX10_empty 5 = .ok (.return_, 1) := by decide +kernel
abbrev cX10_at : ByteArray := prog_12_method_2_code
def yX10_at : MethodName := ⟨"KindredBooks$Text", "at", "(I)I"⟩
theorem mw_410 : (Jvm.Cond.code ({ cls := "KindredBooks$Text", name := "at", desc := "(I)I" } : Jvm.MethodName) prog_12_method_2_code (2 : Nat) (Option.some Jvm.ClassFile.FieldType.int)) ∈ W0 := W0_of (List.mem_append_right _ (List.mem_of_getElem? (i := 410) (by decide +kernel))) rfl
theorem dX10_at_0 : decode cX10_at 0 = .ok (.iload_n 1, 1) := by decide +kernel
theorem dX10_at_1 : decode cX10_at 1 = .ok (.ifCond .lt 24, 3) := by decide +kernel
theorem dX10_at_25 : decode cX10_at 25 = .ok (.iconst (-1), 1) := by decide +kernel
theorem dX10_at_26 : decode cX10_at 26 = .ok (.ireturn, 1) := by decide +kernel
theorem dX10_at_4 : decode cX10_at 4 = .ok (.iload_n 1, 1) := by decide +kernel
theorem dX10_at_5 : decode cX10_at 5 = .ok (.aload_n 0, 1) := by decide +kernel
theorem dX10_at_6 : decode cX10_at 6 = .ok (.getfield 15, 3) := by decide +kernel
theorem dX10_at_9 : decode cX10_at 9 = .ok (.if_icmp .ge 16, 3) := by decide +kernel
set_option maxHeartbeats 4000000 in
set_option maxRecDepth 100000 in
/-- Text.empty() -/
theorem c_Text_empty (l : Launch) (D : va_G) (dA : Nat → ClassId) (dZ : Nat → Nat) (sz : Nat) (ax : Nat) (ab : Nat) (x : Int32) : Met l yX10_empty (wz yX10_empty cX10_empty 1 none) ({ frames := 0, cells := 0, slots := 0, locals := 0 } : Room) (va_Pc [.ref ax] (zP D dA dZ [(ax, .inr (1, [.ref ab, .int x]))] sz)) (va_Qv (fun (_ : Unit) => True) (fun _ => zB D (va_A [(ax, .inr (1, [.ref ab, .int x]))] sz) [(ax, .inr (1, [.ref ab, .int 0]))]) (va_A [(ax, .inr (1, [.ref ab, .int x]))] sz)) 0 0 (va_A [(ax, .inr (1, [.ref ab, .int x]))] sz) := by
  refine Met.ofW (cc := cX10_empty) (maxL := 1) (ret := none) (by decide) rfl ?_
  intro p e s m args below meth c s₁ B hml hv
  obtain ⟨rfl, hsz, hP, hK, hD0, hT, hE⟩ := hv
  have hx := B.exec
  have hb := B.bytes
  have hr := B.returns
  have hw := wz_hw (atoms_spec (ws := wz yX10_empty cX10_empty 1 none) B.pre)
  have hown : s.vm.findClass "KindredBooks$Text" = some m.cls := findClass_of_methodNamed B.named
  have hlocks := B.notSynchronized
  have hn := hT.1.use (args := ([.ref ax] : List Value).toArray)
  subst hsz
  have hD := hD0.self (sz := s.heap.size)
  generalize hAe : va_A [(ax, .inr (1, [.ref ab, .int x]))] s.heap.size = A at hD hE ⊢
  have hA : ∀ q : Nat, s.heap.size ≤ q → A q := fun q h => by rw [← hAe]; exact Or.inr h
  have hS : va_S A s.heap s.heap [] := va_S.rf
  replace hP : va_P D zcl [(ax, .inr (1, [.ref ab, .int x]))] s.heap := hP
  have hl := lv_entry ([.ref ax]) (n := 1) (Nat.le_of_ble_eq_true rfl)
  rw [lg_entry_eq]
  generalize (lg_sl ([.ref ax]) ++ List.replicate (1 - (lg_sl ([.ref ax])).length) Slot.unset).toArray = ls at hl ⊢
  replace hl : lv_has ls 1 [(0, .ref ax)] := hl
  refine lv_aload_n hx hb dX10_empty_0 rfl (lv_at hl 0 rfl) ?_
  refine lv_iconst (v := 0) hx hb dX10_empty_1 (by decide) ?_
  refine va_put (D := D) (ci := 1) (v := .int 0) (ty := .int) (C := "KindredBooks$Text") (T := T_zk1) (N := 2) hx hb hw in_zk1 ty_zk1 ok_zk1 nm_zk1 hown hK hP hD hS 0 rfl rfl 1 (by decide) (hw _ mw_58) (fun _ h9 => h9) rfl (by decide +kernel) rfl rfl (Nat.le_of_ble_eq_true rfl) dX10_empty_2 (fun H locs hP hD hS => ?_)
  have hP : va_P D zcl [(ax, .inr (1, [.ref ab, .int 0]))] H := hP
  have hD : va_D A [(ax, .inr (1, [.ref ab, .int 0]))] := hD
  have hP9 := hP.sub (ws' := [(ax, .inr (1, [.ref ab, .int 0]))]) [0] rfl
  have hD9 := hD.sub (ws' := [(ax, .inr (1, [.ref ab, .int 0]))]) [0] (by decide) rfl
  exact W.vret hx hb hr (fun t ht hW => ⟨⟨(), rfl, trivial, by rw [ht]; exact hP9, hD9⟩, hS.F ht⟩) hS.2.2 dX10_empty_5
set_option maxHeartbeats 4000000 in
set_option maxRecDepth 100000 in
/-- Text.at() of an empty text -/
theorem c_Text_at0 (l : Launch) (D : va_G) (dA : Nat → ClassId) (dZ : Nat → Nat) (sz : Nat) (ax : Nat) (ab : Nat) (x : Int32) : Met l yX10_at (wz yX10_at cX10_at 2 (some .int)) ({ frames := 0, cells := 0, slots := 0, locals := 0 } : Room) (va_Pc [.ref ax, .int x] (zP D dA dZ [(ax, .inr (1, [.ref ab, .int 0]))] sz)) (va_Qi (fun (r : Int32) (_ : Unit) => r = -1) (fun _ => zB D (va_A [(ax, .inr (1, [.ref ab, .int 0]))] sz) [(ax, .inr (1, [.ref ab, .int 0]))]) (va_A [(ax, .inr (1, [.ref ab, .int 0]))] sz)) 0 0 (va_A [(ax, .inr (1, [.ref ab, .int 0]))] sz) := by
  refine Met.ofW (cc := cX10_at) (maxL := 2) (ret := (some .int)) (by decide) rfl ?_
  intro p e s m args below meth c s₁ B hml hv
  obtain ⟨rfl, hsz, hP, hK, hD0, hT, hE⟩ := hv
  have hx := B.exec
  have hb := B.bytes
  have hr := B.returns
  have hw := wz_hw (atoms_spec (ws := wz yX10_at cX10_at 2 (some .int)) B.pre)
  have hown : s.vm.findClass "KindredBooks$Text" = some m.cls := findClass_of_methodNamed B.named
  have hlocks := B.notSynchronized
  have hn := hT.1.use (args := ([.ref ax, .int x] : List Value).toArray)
  subst hsz
  have hD := hD0.self (sz := s.heap.size)
  generalize hAe : va_A [(ax, .inr (1, [.ref ab, .int 0]))] s.heap.size = A at hD hE ⊢
  have hA : ∀ q : Nat, s.heap.size ≤ q → A q := fun q h => by rw [← hAe]; exact Or.inr h
  have hS : va_S A s.heap s.heap [] := va_S.rf
  replace hP : va_P D zcl [(ax, .inr (1, [.ref ab, .int 0]))] s.heap := hP
  have hl := lv_entry ([.ref ax, .int x]) (n := 2) (Nat.le_of_ble_eq_true rfl)
  rw [lg_entry_eq]
  generalize (lg_sl ([.ref ax, .int x]) ++ List.replicate (2 - (lg_sl ([.ref ax, .int x])).length) Slot.unset).toArray = ls at hl ⊢
  replace hl : lv_has ls 2 [(0, .ref ax), (1, .int x)] := hl
  refine lv_iload_n hx hb dX10_at_0 rfl (lv_at hl 1 rfl) ?_
  refine lv_if_lt (tgt := 25) hx hb dX10_at_1 (by decide) (fun c9 => ?_) (fun c9 => ?_)
  · refine lv_iconst (v := (-1)) hx hb dX10_at_25 (by decide) ?_
    have hP9 := hP.sub (ws' := [(ax, .inr (1, [.ref ab, .int 0]))]) [0] rfl
    have hD9 := hD.sub (ws' := [(ax, .inr (1, [.ref ab, .int 0]))]) [0] (by decide) rfl
    exact W.iret (v := (-1)) hx hb hr (fun t ht hW => ⟨⟨(-1), (), rfl, rfl, by rw [ht]; exact hP9, hD9⟩, hS.F ht⟩) hS.2.2 dX10_at_26
  · refine lv_iload_n hx hb dX10_at_4 rfl (lv_at hl 1 rfl) ?_
    refine lv_aload_n hx hb dX10_at_5 rfl (lv_at hl 0 rfl) ?_
    refine va_get (D := D) (ci := 1) (v := .int 0) (C := "KindredBooks$Text") (T := T_zk1) (N := 2) hx hb hw in_zk1 hown hK hP 0 rfl rfl 1 (by decide) (hw _ mw_58) (fun _ h9 => h9) rfl dX10_at_6 ?_
    refine lv_icmp_ge (tgt := 25) hx hb dX10_at_9 (by decide) (fun _ => ?_) (fun zc => absurd (Int32.not_lt.mp c9) zc)
    refine lv_iconst (v := (-1)) hx hb dX10_at_25 (by decide) ?_
    have hP9 := hP.sub (ws' := [(ax, .inr (1, [.ref ab, .int 0]))]) [0] rfl
    have hD9 := hD.sub (ws' := [(ax, .inr (1, [.ref ab, .int 0]))]) [0] (by decide) rfl
    exact W.iret (v := (-1)) hx hb hr (fun t ht hW => ⟨⟨(-1), (), rfl, rfl, by rw [ht]; exact hP9, hD9⟩, hS.F ht⟩) hS.2.2 dX10_at_26
end
section
abbrev cX11_bookOf : ByteArray := prog_1_method_49_code
def yX11_bookOf : MethodName := ⟨"KindredBooks", "bookOf", "(I)LKindredBooks$Book;"⟩
theorem mw_606 : (Jvm.Cond.code ({ cls := "KindredBooks", name := "bookOf", desc := "(I)LKindredBooks$Book;" } : Jvm.MethodName) prog_1_method_49_code (2 : Nat) (Option.some (Jvm.ClassFile.FieldType.object "KindredBooks$Book"))) ∈ W0 := W0_of (List.mem_append_right _ (List.mem_of_getElem? (i := 606) (by decide +kernel))) rfl
theorem dX11_bookOf_0 : decode cX11_bookOf 0 = .ok (.iload_n 1, 1) := by decide +kernel
theorem dX11_bookOf_1 : decode cX11_bookOf 1 = .ok (.ifCond .lt 8, 3) := by decide +kernel
theorem dX11_bookOf_9 : decode cX11_bookOf 9 = .ok (.new 212, 3) := by decide +kernel
theorem dX11_bookOf_12 : decode cX11_bookOf 12 = .ok (.dup, 1) := by decide +kernel
theorem dX11_bookOf_13 : decode cX11_bookOf 13 = .ok (.ldc_w 395, 3) := by decide +kernel
theorem dX11_bookOf_16 : decode cX11_bookOf 16 = .ok (.invokespecial 216, 3) := by decide +kernel
theorem dX11_bookOf_19 : decode cX11_bookOf 19 = .ok (.athrow, 1) := by decide +kernel
theorem xat_KindredBooks_216_IndexOutOfBoundsException : ∀ w ∈ vx_atS "KindredBooks" 216 "java/lang/IndexOutOfBoundsException" ["java/lang/RuntimeException", "java/lang/Exception"], w ∈ lw_tbl ∧ (goodWord w || isN w) = true := by decide +kernel
theorem mw_607 : (Jvm.Cond.classLink "KindredBooks" (212 : Nat) "java/lang/IndexOutOfBoundsException") ∈ W0 := W0_of (List.mem_append_right _ (List.mem_of_getElem? (i := 607) (by decide +kernel))) rfl
theorem mw_29 : (Jvm.Cond.initialized "java/lang/IndexOutOfBoundsException") ∈ W0 := W0_of (List.mem_append_right _ (List.mem_of_getElem? (i := 29) (by decide +kernel))) rfl
theorem xgd_KindredBooks_216_212 : ∀ w ∈ Cond.classLink "KindredBooks" 212 "java/lang/IndexOutOfBoundsException" :: Cond.initialized "java/lang/IndexOutOfBoundsException" :: vx_atS "KindredBooks" 216 "java/lang/IndexOutOfBoundsException" ["java/lang/RuntimeException", "java/lang/Exception"], vx_ot w = true := by decide +kernel
abbrev cX11_kinOf : ByteArray := prog_1_method_50_code
def yX11_kinOf : MethodName := ⟨"KindredBooks", "kinOf", "(I)LKindredBooks$Kin;"⟩
theorem mw_866 : (Jvm.Cond.code ({ cls := "KindredBooks", name := "kinOf", desc := "(I)LKindredBooks$Kin;" } : Jvm.MethodName) prog_1_method_50_code (2 : Nat) (Option.some (Jvm.ClassFile.FieldType.object "KindredBooks$Kin"))) ∈ W0 := W0_of (List.mem_append_right _ (List.mem_of_getElem? (i := 866) (by decide +kernel))) rfl
theorem dX11_kinOf_0 : decode cX11_kinOf 0 = .ok (.iload_n 1, 1) := by decide +kernel
theorem dX11_kinOf_1 : decode cX11_kinOf 1 = .ok (.ifCond .lt 8, 3) := by decide +kernel
theorem dX11_kinOf_9 : decode cX11_kinOf 9 = .ok (.new 212, 3) := by decide +kernel
theorem dX11_kinOf_12 : decode cX11_kinOf 12 = .ok (.dup, 1) := by decide +kernel
theorem dX11_kinOf_13 : decode cX11_kinOf 13 = .ok (.ldc_w 395, 3) := by decide +kernel
theorem dX11_kinOf_16 : decode cX11_kinOf 16 = .ok (.invokespecial 216, 3) := by decide +kernel
theorem dX11_kinOf_19 : decode cX11_kinOf 19 = .ok (.athrow, 1) := by decide +kernel
theorem dX11_bookOf_4 : decode cX11_bookOf 4 = .ok (.iload_n 1, 1) := by decide +kernel
theorem dX11_bookOf_5 : decode cX11_bookOf 5 = .ok (.iconst 3, 1) := by decide +kernel
theorem dX11_bookOf_6 : decode cX11_bookOf 6 = .ok (.if_icmp .lt 14, 3) := by decide +kernel
theorem dX11_kinOf_4 : decode cX11_kinOf 4 = .ok (.iload_n 1, 1) := by decide +kernel
theorem dX11_kinOf_5 : decode cX11_kinOf 5 = .ok (.iconst 3, 1) := by decide +kernel
theorem dX11_kinOf_6 : decode cX11_kinOf 6 = .ok (.if_icmp .lt 14, 3) := by decide +kernel
theorem dX11_bookOf_20 : decode cX11_bookOf 20 = .ok (.aload_n 0, 1) := by decide +kernel
theorem dX11_bookOf_21 : decode cX11_bookOf 21 = .ok (.getfield 33, 3) := by decide +kernel
theorem mw_350 : (Jvm.Cond.fieldLink "KindredBooks" (33 : Nat) "KindredBooks" "books" "[LKindredBooks$Book;") ∈ W0 := W0_of (List.mem_append_right _ (List.mem_of_getElem? (i := 350) (by decide +kernel))) rfl
theorem dX11_bookOf_24 : decode cX11_bookOf 24 = .ok (.iload_n 1, 1) := by decide +kernel
theorem dX11_bookOf_25 : decode cX11_bookOf 25 = .ok (.aaload, 1) := by decide +kernel
theorem dX11_bookOf_26 : decode cX11_bookOf 26 = .ok (.areturn, 1) := by decide +kernel
abbrev cX11_checkRoom : ByteArray := prog_1_method_52_code
def yX11_checkRoom : MethodName := ⟨"KindredBooks", "checkRoom", "()V"⟩
theorem mw_626 : (Jvm.Cond.code ({ cls := "KindredBooks", name := "checkRoom", desc := "()V" } : Jvm.MethodName) prog_1_method_52_code (1 : Nat) (Option.none : Option Jvm.ClassFile.FieldType)) ∈ W0 := W0_of (List.mem_append_right _ (List.mem_of_getElem? (i := 626) (by decide +kernel))) rfl
theorem dX11_checkRoom_0 : decode cX11_checkRoom 0 = .ok (.aload_n 0, 1) := by decide +kernel
theorem dX11_checkRoom_1 : decode cX11_checkRoom 1 = .ok (.getfield 27, 3) := by decide +kernel
theorem mw_349 : (Jvm.Cond.fieldLink "KindredBooks" (27 : Nat) "KindredBooks" "ledger" "LKindredBooks$Ledger;") ∈ W0 := W0_of (List.mem_append_right _ (List.mem_of_getElem? (i := 349) (by decide +kernel))) rfl
theorem dX11_checkRoom_4 : decode cX11_checkRoom 4 = .ok (.getfield 103, 3) := by decide +kernel
theorem mn_170 : (Jvm.Cond.fieldLinkNest "KindredBooks" (103 : Nat) "KindredBooks$Ledger" "size" "I" "KindredBooks") ∈ N0 := N0_of (List.mem_append_right _ (List.mem_of_getElem? (i := 170) (by decide +kernel))) rfl
theorem dX11_checkRoom_7 : decode cX11_checkRoom 7 = .ok (.sipush 250, 3) := by decide +kernel
theorem dX11_checkRoom_10 : decode cX11_checkRoom 10 = .ok (.if_icmp .lt 14, 3) := by decide +kernel
theorem dX11_checkRoom_24 : decode cX11_checkRoom 24 = .ok (.return_, 1) := by decide +kernel
abbrev cX11_checkKind : ByteArray := prog_1_method_53_code
def yX11_checkKind : MethodName := ⟨"KindredBooks", "checkKind", "(I)V"⟩
theorem mw_693 : (Jvm.Cond.code ({ cls := "KindredBooks", name := "checkKind", desc := "(I)V" } : Jvm.MethodName) prog_1_method_53_code (2 : Nat) (Option.none : Option Jvm.ClassFile.FieldType)) ∈ W0 := W0_of (List.mem_append_right _ (List.mem_of_getElem? (i := 693) (by decide +kernel))) rfl
theorem dX11_checkKind_0 : decode cX11_checkKind 0 = .ok (.iload_n 1, 1) := by decide +kernel
theorem dX11_checkKind_1 : decode cX11_checkKind 1 = .ok (.ifCond .lt 8, 3) := by decide +kernel
theorem dX11_checkKind_4 : decode cX11_checkKind 4 = .ok (.iload_n 1, 1) := by decide +kernel
theorem dX11_checkKind_5 : decode cX11_checkKind 5 = .ok (.iconst 4, 1) := by decide +kernel
theorem dX11_checkKind_6 : decode cX11_checkKind 6 = .ok (.if_icmp .le 14, 3) := by decide +kernel
theorem dX11_checkKind_20 : decode cX11_checkKind 20 = .ok (.return_, 1) := by decide +kernel
theorem dX11_checkKind_9 : decode cX11_checkKind 9 = .ok (.new 98, 3) := by decide +kernel
theorem dX11_checkKind_12 : decode cX11_checkKind 12 = .ok (.dup, 1) := by decide +kernel
theorem dX11_checkKind_13 : decode cX11_checkKind 13 = .ok (.ldc_w 404, 3) := by decide +kernel
theorem dX11_checkKind_16 : decode cX11_checkKind 16 = .ok (.invokespecial 102, 3) := by decide +kernel
theorem dX11_checkKind_19 : decode cX11_checkKind 19 = .ok (.athrow, 1) := by decide +kernel
theorem xat_KindredBooks_102_IllegalArgumentException : ∀ w ∈ vx_atS "KindredBooks" 102 "java/lang/IllegalArgumentException" ["java/lang/RuntimeException", "java/lang/Exception"], w ∈ lw_tbl ∧ (goodWord w || isN w) = true := by decide +kernel
theorem mw_540 : (Jvm.Cond.classLink "KindredBooks" (98 : Nat) "java/lang/IllegalArgumentException") ∈ W0 := W0_of (List.mem_append_right _ (List.mem_of_getElem? (i := 540) (by decide +kernel))) rfl
theorem mw_33 : (Jvm.Cond.initialized "java/lang/IllegalArgumentException") ∈ W0 := W0_of (List.mem_append_right _ (List.mem_of_getElem? (i := 33) (by decide +kernel))) rfl
theorem xgd_KindredBooks_102_98 : ∀ w ∈ Cond.classLink "KindredBooks" 98 "java/lang/IllegalArgumentException" :: Cond.initialized "java/lang/IllegalArgumentException" :: vx_atS "KindredBooks" 102 "java/lang/IllegalArgumentException" ["java/lang/RuntimeException", "java/lang/Exception"], vx_ot w = true := by decide +kernel
theorem z3 {i : Nat} (h : i < 3) : nI i < 3 := (show nI i < nI 3 from nI_lt h (by decide))
set_option maxHeartbeats 4000000 in
set_option maxRecDepth 100000 in
/-- bookOf: no such book -/
theorem c_bookOf_lo (l : Launch) (D : va_G) (dA : Nat → ClassId) (dZ : Nat → Nat) (sz : Nat) (hfl : l.stackTraces = false) (ax : Nat) (b : Int32) (h1 : b < 0) : vx_Met l yX11_bookOf (wz yX11_bookOf cX11_bookOf 2 (some (.object "KindredBooks$Book"))) ({ frames := 6, cells := 1, slots := 6, locals := 100 } : Room) (va_Pc [.ref ax, .int b] (zP D dA dZ [] sz)) zNo (zX "java/lang/IndexOutOfBoundsException" (va_A [] sz)) 1 6 (va_A [] sz) := by
  refine vx_ofW (cc := cX11_bookOf) (maxL := 2) (ret := (some (.object "KindredBooks$Book"))) (by decide) rfl ?_
  intro p e s m args below meth c s₁ B hml hno hv
  obtain ⟨rfl, hsz, hP, hK, hD0, hT, hE⟩ := hv
  have hx := B.exec
  have hb := B.bytes
  have hr := B.returns
  have hw := wz_hw (atoms_spec (ws := wz yX11_bookOf cX11_bookOf 2 (some (.object "KindredBooks$Book"))) B.pre)
  have hown : s.vm.findClass "KindredBooks" = some m.cls := findClass_of_methodNamed B.named
  have hlocks := B.notSynchronized
  have hn := hT.1.use (args := ([.ref ax, .int b] : List Value).toArray)
  subst hsz
  have hD := hD0.self (sz := s.heap.size)
  generalize hAe : va_A [] s.heap.size = A at hD hE ⊢
  have hA : ∀ q : Nat, s.heap.size ≤ q → A q := fun q h => by rw [← hAe]; exact Or.inr h
  have hS : va_S A s.heap s.heap [] := va_S.rf
  replace hP : va_P D zcl [] s.heap := hP
  have hl := lv_entry ([.ref ax, .int b]) (n := 2) (Nat.le_of_ble_eq_true rfl)
  rw [lg_entry_eq]
  generalize (lg_sl ([.ref ax, .int b]) ++ List.replicate (2 - (lg_sl ([.ref ax, .int b])).length) Slot.unset).toArray = ls at hl ⊢
  replace hl : lv_has ls 2 [(0, .ref ax), (1, .int b)] := hl
  refine lv_iload_n hx hb dX11_bookOf_0 rfl (lv_at hl 1 rfl) ?_
  refine lv_if_lt (tgt := 9) hx hb dX11_bookOf_1 (by decide) (fun _ => ?_) (fun zc => absurd h1 zc)
  obtain ⟨sa, hsa⟩ := hT.2.1 ("KindredBooks", 395, "there is no such book") (by decide)
  exact vx_throwSW (own := "KindredBooks") (cls := "java/lang/IndexOutOfBoundsException") (names := ["java/lang/RuntimeException", "java/lang/Exception"]) (XC := zX "java/lang/IndexOutOfBoundsException" A) hx hb hfl hown (by decide) (by decide) (hw _ mw_607) (hw _ mw_29) hsa (z_at hw hT.1 xat_KindredBooks_216_IndexOutOfBoundsException) xgd_KindredBooks_216_212 hE.2.2.2.2.2.1 hE.2.2.2.2.2.2 hS (hl.1.trans hml.symm) dX11_bookOf_9 dX11_bookOf_12 dX11_bookOf_13 dX11_bookOf_16 dX11_bookOf_19 (fun x hx => (hno x hx).elim) (Nat.le_of_ble_eq_true rfl) (Nat.le_of_ble_eq_true rfl) (Nat.le_of_ble_eq_true rfl) (Nat.le_of_ble_eq_true rfl) hlocks (fun t _ h1 h2 => zX_of hS h1 h2) hS.2.2 (Nat.le_of_ble_eq_true rfl) (Nat.le_of_ble_eq_true rfl)
set_option maxHeartbeats 4000000 in
set_option maxRecDepth 100000 in
/-- kinOf: no such book -/
theorem c_kinOf_lo (l : Launch) (D : va_G) (dA : Nat → ClassId) (dZ : Nat → Nat) (sz : Nat) (hfl : l.stackTraces = false) (ax : Nat) (b : Int32) (h1 : b < 0) : vx_Met l yX11_kinOf (wz yX11_kinOf cX11_kinOf 2 (some (.object "KindredBooks$Kin"))) ({ frames := 6, cells := 1, slots := 6, locals := 100 } : Room) (va_Pc [.ref ax, .int b] (zP D dA dZ [] sz)) zNo (zX "java/lang/IndexOutOfBoundsException" (va_A [] sz)) 1 6 (va_A [] sz) := by
  refine vx_ofW (cc := cX11_kinOf) (maxL := 2) (ret := (some (.object "KindredBooks$Kin"))) (by decide) rfl ?_
  intro p e s m args below meth c s₁ B hml hno hv
  obtain ⟨rfl, hsz, hP, hK, hD0, hT, hE⟩ := hv
  have hx := B.exec
  have hb := B.bytes
  have hr := B.returns
  have hw := wz_hw (atoms_spec (ws := wz yX11_kinOf cX11_kinOf 2 (some (.object "KindredBooks$Kin"))) B.pre)
  have hown : s.vm.findClass "KindredBooks" = some m.cls := findClass_of_methodNamed B.named
  have hlocks := B.notSynchronized
  have hn := hT.1.use (args := ([.ref ax, .int b] : List Value).toArray)
  subst hsz
  have hD := hD0.self (sz := s.heap.size)
  generalize hAe : va_A [] s.heap.size = A at hD hE ⊢
  have hA : ∀ q : Nat, s.heap.size ≤ q → A q := fun q h => by rw [← hAe]; exact Or.inr h
  have hS : va_S A s.heap s.heap [] := va_S.rf
  replace hP : va_P D zcl [] s.heap := hP
  have hl := lv_entry ([.ref ax, .int b]) (n := 2) (Nat.le_of_ble_eq_true rfl)
  rw [lg_entry_eq]
  generalize (lg_sl ([.ref ax, .int b]) ++ List.replicate (2 - (lg_sl ([.ref ax, .int b])).length) Slot.unset).toArray = ls at hl ⊢
  replace hl : lv_has ls 2 [(0, .ref ax), (1, .int b)] := hl
  refine lv_iload_n hx hb dX11_kinOf_0 rfl (lv_at hl 1 rfl) ?_
  refine lv_if_lt (tgt := 9) hx hb dX11_kinOf_1 (by decide) (fun _ => ?_) (fun zc => absurd h1 zc)
  obtain ⟨sa, hsa⟩ := hT.2.1 ("KindredBooks", 395, "there is no such book") (by decide)
  exact vx_throwSW (own := "KindredBooks") (cls := "java/lang/IndexOutOfBoundsException") (names := ["java/lang/RuntimeException", "java/lang/Exception"]) (XC := zX "java/lang/IndexOutOfBoundsException" A) hx hb hfl hown (by decide) (by decide) (hw _ mw_607) (hw _ mw_29) hsa (z_at hw hT.1 xat_KindredBooks_216_IndexOutOfBoundsException) xgd_KindredBooks_216_212 hE.2.2.2.2.2.1 hE.2.2.2.2.2.2 hS (hl.1.trans hml.symm) dX11_kinOf_9 dX11_kinOf_12 dX11_kinOf_13 dX11_kinOf_16 dX11_kinOf_19 (fun x hx => (hno x hx).elim) (Nat.le_of_ble_eq_true rfl) (Nat.le_of_ble_eq_true rfl) (Nat.le_of_ble_eq_true rfl) (Nat.le_of_ble_eq_true rfl) hlocks (fun t _ h1 h2 => zX_of hS h1 h2) hS.2.2 (Nat.le_of_ble_eq_true rfl) (Nat.le_of_ble_eq_true rfl)
set_option maxHeartbeats 4000000 in
set_option maxRecDepth 100000 in
/-- bookOf: no such book -/
theorem c_bookOf_hi (l : Launch) (D : va_G) (dA : Nat → ClassId) (dZ : Nat → Nat) (sz : Nat) (hfl : l.stackTraces = false) (ax : Nat) (b : Int32) (h1 : ¬ b < 0) (h2 : 3 ≤ b) : vx_Met l yX11_bookOf (wz yX11_bookOf cX11_bookOf 2 (some (.object "KindredBooks$Book"))) ({ frames := 6, cells := 1, slots := 6, locals := 100 } : Room) (va_Pc [.ref ax, .int b] (zP D dA dZ [] sz)) zNo (zX "java/lang/IndexOutOfBoundsException" (va_A [] sz)) 1 6 (va_A [] sz) := by
  refine vx_ofW (cc := cX11_bookOf) (maxL := 2) (ret := (some (.object "KindredBooks$Book"))) (by decide) rfl ?_
  intro p e s m args below meth c s₁ B hml hno hv
  obtain ⟨rfl, hsz, hP, hK, hD0, hT, hE⟩ := hv
  have hx := B.exec
  have hb := B.bytes
  have hr := B.returns
  have hw := wz_hw (atoms_spec (ws := wz yX11_bookOf cX11_bookOf 2 (some (.object "KindredBooks$Book"))) B.pre)
  have hown : s.vm.findClass "KindredBooks" = some m.cls := findClass_of_methodNamed B.named
  have hlocks := B.notSynchronized
  have hn := hT.1.use (args := ([.ref ax, .int b] : List Value).toArray)
  subst hsz
  have hD := hD0.self (sz := s.heap.size)
  generalize hAe : va_A [] s.heap.size = A at hD hE ⊢
  have hA : ∀ q : Nat, s.heap.size ≤ q → A q := fun q h => by rw [← hAe]; exact Or.inr h
  have hS : va_S A s.heap s.heap [] := va_S.rf
  replace hP : va_P D zcl [] s.heap := hP
  have hl := lv_entry ([.ref ax, .int b]) (n := 2) (Nat.le_of_ble_eq_true rfl)
  rw [lg_entry_eq]
  generalize (lg_sl ([.ref ax, .int b]) ++ List.replicate (2 - (lg_sl ([.ref ax, .int b])).length) Slot.unset).toArray = ls at hl ⊢
  replace hl : lv_has ls 2 [(0, .ref ax), (1, .int b)] := hl
  refine lv_iload_n hx hb dX11_bookOf_0 rfl (lv_at hl 1 rfl) ?_
  refine lv_if_lt (tgt := 9) hx hb dX11_bookOf_1 (by decide) (fun zc => absurd zc h1) (fun _ => ?_)
  refine lv_iload_n hx hb dX11_bookOf_4 rfl (lv_at hl 1 rfl) ?_
  refine lv_iconst (v := 3) hx hb dX11_bookOf_5 (by decide) ?_
  refine lv_icmp_lt (tgt := 20) hx hb dX11_bookOf_6 (by decide) (fun zc => absurd zc (Int32.not_lt.mpr h2)) (fun _ => ?_)
  obtain ⟨sa, hsa⟩ := hT.2.1 ("KindredBooks", 395, "there is no such book") (by decide)
  exact vx_throwSW (own := "KindredBooks") (cls := "java/lang/IndexOutOfBoundsException") (names := ["java/lang/RuntimeException", "java/lang/Exception"]) (XC := zX "java/lang/IndexOutOfBoundsException" A) hx hb hfl hown (by decide) (by decide) (hw _ mw_607) (hw _ mw_29) hsa (z_at hw hT.1 xat_KindredBooks_216_IndexOutOfBoundsException) xgd_KindredBooks_216_212 hE.2.2.2.2.2.1 hE.2.2.2.2.2.2 hS (hl.1.trans hml.symm) dX11_bookOf_9 dX11_bookOf_12 dX11_bookOf_13 dX11_bookOf_16 dX11_bookOf_19 (fun x hx => (hno x hx).elim) (Nat.le_of_ble_eq_true rfl) (Nat.le_of_ble_eq_true rfl) (Nat.le_of_ble_eq_true rfl) (Nat.le_of_ble_eq_true rfl) hlocks (fun t _ h1 h2 => zX_of hS h1 h2) hS.2.2 (Nat.le_of_ble_eq_true rfl) (Nat.le_of_ble_eq_true rfl)
set_option maxHeartbeats 4000000 in
set_option maxRecDepth 100000 in
/-- kinOf: no such book -/
theorem c_kinOf_hi (l : Launch) (D : va_G) (dA : Nat → ClassId) (dZ : Nat → Nat) (sz : Nat) (hfl : l.stackTraces = false) (ax : Nat) (b : Int32) (h1 : ¬ b < 0) (h2 : 3 ≤ b) : vx_Met l yX11_kinOf (wz yX11_kinOf cX11_kinOf 2 (some (.object "KindredBooks$Kin"))) ({ frames := 6, cells := 1, slots := 6, locals := 100 } : Room) (va_Pc [.ref ax, .int b] (zP D dA dZ [] sz)) zNo (zX "java/lang/IndexOutOfBoundsException" (va_A [] sz)) 1 6 (va_A [] sz) := by
  refine vx_ofW (cc := cX11_kinOf) (maxL := 2) (ret := (some (.object "KindredBooks$Kin"))) (by decide) rfl ?_
  intro p e s m args below meth c s₁ B hml hno hv
  obtain ⟨rfl, hsz, hP, hK, hD0, hT, hE⟩ := hv
  have hx := B.exec
  have hb := B.bytes
  have hr := B.returns
  have hw := wz_hw (atoms_spec (ws := wz yX11_kinOf cX11_kinOf 2 (some (.object "KindredBooks$Kin"))) B.pre)
  have hown : s.vm.findClass "KindredBooks" = some m.cls := findClass_of_methodNamed B.named
  have hlocks := B.notSynchronized
  have hn := hT.1.use (args := ([.ref ax, .int b] : List Value).toArray)
  subst hsz
  have hD := hD0.self (sz := s.heap.size)
  generalize hAe : va_A [] s.heap.size = A at hD hE ⊢
  have hA : ∀ q : Nat, s.heap.size ≤ q → A q := fun q h => by rw [← hAe]; exact Or.inr h
  have hS : va_S A s.heap s.heap [] := va_S.rf
  replace hP : va_P D zcl [] s.heap := hP
  have hl := lv_entry ([.ref ax, .int b]) (n := 2) (Nat.le_of_ble_eq_true rfl)
  rw [lg_entry_eq]
  generalize (lg_sl ([.ref ax, .int b]) ++ List.replicate (2 - (lg_sl ([.ref ax, .int b])).length) Slot.unset).toArray = ls at hl ⊢
  replace hl : lv_has ls 2 [(0, .ref ax), (1, .int b)] := hl
  refine lv_iload_n hx hb dX11_kinOf_0 rfl (lv_at hl 1 rfl) ?_
  refine lv_if_lt (tgt := 9) hx hb dX11_kinOf_1 (by decide) (fun zc => absurd zc h1) (fun _ => ?_)
  refine lv_iload_n hx hb dX11_kinOf_4 rfl (lv_at hl 1 rfl) ?_
  refine lv_iconst (v := 3) hx hb dX11_kinOf_5 (by decide) ?_
  refine lv_icmp_lt (tgt := 20) hx hb dX11_kinOf_6 (by decide) (fun zc => absurd zc (Int32.not_lt.mpr h2)) (fun _ => ?_)
  obtain ⟨sa, hsa⟩ := hT.2.1 ("KindredBooks", 395, "there is no such book") (by decide)
  exact vx_throwSW (own := "KindredBooks") (cls := "java/lang/IndexOutOfBoundsException") (names := ["java/lang/RuntimeException", "java/lang/Exception"]) (XC := zX "java/lang/IndexOutOfBoundsException" A) hx hb hfl hown (by decide) (by decide) (hw _ mw_607) (hw _ mw_29) hsa (z_at hw hT.1 xat_KindredBooks_216_IndexOutOfBoundsException) xgd_KindredBooks_216_212 hE.2.2.2.2.2.1 hE.2.2.2.2.2.2 hS (hl.1.trans hml.symm) dX11_kinOf_9 dX11_kinOf_12 dX11_kinOf_13 dX11_kinOf_16 dX11_kinOf_19 (fun x hx => (hno x hx).elim) (Nat.le_of_ble_eq_true rfl) (Nat.le_of_ble_eq_true rfl) (Nat.le_of_ble_eq_true rfl) (Nat.le_of_ble_eq_true rfl) hlocks (fun t _ h1 h2 => zX_of hS h1 h2) hS.2.2 (Nat.le_of_ble_eq_true rfl) (Nat.le_of_ble_eq_true rfl)
set_option maxHeartbeats 4000000 in
set_option maxRecDepth 100000 in
/-- bookOf(i) -/
theorem c_bookOf (l : Launch) (D : va_G) (dA : Nat → ClassId) (dZ : Nat → Nat) (sz : Nat) (ax : Nat) (xt : Nat) (xp : Nat) (xs : Nat) (xl : Nat) (xb : Nat) (xk : Nat) (xm : Nat) (xq : Nat) (xg : Nat) (xf : Nat) (xe : Nat) (i : Nat) (fb : Nat → Option Nat) (bk : Nat) (hi : i < 3) (hf : fb i = some bk) : Met l yX11_bookOf (wz yX11_bookOf cX11_bookOf 2 (some (.object "KindredBooks$Book"))) ({ frames := 0, cells := 0, slots := 0, locals := 0 } : Room) (va_Pc [.ref ax, .int (nI i)] (zP D dA dZ [(ax, .inr (0, [.ref xt, .ref xp, .ref xs, .ref xl, .ref xb, .ref xk, .ref xm, .ref xq, .ref xg, .ref xf, .ref xe, .int 49])), (xb, .inl (dA 6, 3, .inr (.inr (.inr (.inr fb)))))] sz)) (va_Qq (fun (r : Option Nat) (_ : Unit) => r = (some bk)) (fun _ => zB D (va_A [(ax, .inr (0, [.ref xt, .ref xp, .ref xs, .ref xl, .ref xb, .ref xk, .ref xm, .ref xq, .ref xg, .ref xf, .ref xe, .int 49])), (xb, .inl (dA 6, 3, .inr (.inr (.inr (.inr fb)))))] sz) [(ax, .inr (0, [.ref xt, .ref xp, .ref xs, .ref xl, .ref xb, .ref xk, .ref xm, .ref xq, .ref xg, .ref xf, .ref xe, .int 49])), (xb, .inl (dA 6, 3, .inr (.inr (.inr (.inr fb)))))]) (va_A [(ax, .inr (0, [.ref xt, .ref xp, .ref xs, .ref xl, .ref xb, .ref xk, .ref xm, .ref xq, .ref xg, .ref xf, .ref xe, .int 49])), (xb, .inl (dA 6, 3, .inr (.inr (.inr (.inr fb)))))] sz)) 0 0 (va_A [(ax, .inr (0, [.ref xt, .ref xp, .ref xs, .ref xl, .ref xb, .ref xk, .ref xm, .ref xq, .ref xg, .ref xf, .ref xe, .int 49])), (xb, .inl (dA 6, 3, .inr (.inr (.inr (.inr fb)))))] sz) := by
  refine Met.ofW (cc := cX11_bookOf) (maxL := 2) (ret := (some (.object "KindredBooks$Book"))) (by decide) rfl ?_
  intro p e s m args below meth c s₁ B hml hv
  obtain ⟨rfl, hsz, hP, hK, hD0, hT, hE⟩ := hv
  have hx := B.exec
  have hb := B.bytes
  have hr := B.returns
  have hw := wz_hw (atoms_spec (ws := wz yX11_bookOf cX11_bookOf 2 (some (.object "KindredBooks$Book"))) B.pre)
  have hown : s.vm.findClass "KindredBooks" = some m.cls := findClass_of_methodNamed B.named
  have hlocks := B.notSynchronized
  have hn := hT.1.use (args := ([.ref ax, .int (nI i)] : List Value).toArray)
  subst hsz
  have hD := hD0.self (sz := s.heap.size)
  generalize hAe : va_A [(ax, .inr (0, [.ref xt, .ref xp, .ref xs, .ref xl, .ref xb, .ref xk, .ref xm, .ref xq, .ref xg, .ref xf, .ref xe, .int 49])), (xb, .inl (dA 6, 3, .inr (.inr (.inr (.inr fb)))))] s.heap.size = A at hD hE ⊢
  have hA : ∀ q : Nat, s.heap.size ≤ q → A q := fun q h => by rw [← hAe]; exact Or.inr h
  have hS : va_S A s.heap s.heap [] := va_S.rf
  replace hP : va_P D zcl [(ax, .inr (0, [.ref xt, .ref xp, .ref xs, .ref xl, .ref xb, .ref xk, .ref xm, .ref xq, .ref xg, .ref xf, .ref xe, .int 49])), (xb, .inl (dA 6, 3, .inr (.inr (.inr (.inr fb)))))] s.heap := hP
  have hl := lv_entry ([.ref ax, .int (nI i)]) (n := 2) (Nat.le_of_ble_eq_true rfl)
  rw [lg_entry_eq]
  generalize (lg_sl ([.ref ax, .int (nI i)]) ++ List.replicate (2 - (lg_sl ([.ref ax, .int (nI i)])).length) Slot.unset).toArray = ls at hl ⊢
  replace hl : lv_has ls 2 [(0, .ref ax), (1, .int (nI i))] := hl
  refine lv_iload_n hx hb dX11_bookOf_0 rfl (lv_at hl 1 rfl) ?_
  refine lv_if_lt (tgt := 9) hx hb dX11_bookOf_1 (by decide) (fun zc => absurd zc (nI_pos (by omega))) (fun _ => ?_)
  refine lv_iload_n hx hb dX11_bookOf_4 rfl (lv_at hl 1 rfl) ?_
  refine lv_iconst (v := 3) hx hb dX11_bookOf_5 (by decide) ?_
  refine lv_icmp_lt (tgt := 20) hx hb dX11_bookOf_6 (by decide) (fun _ => ?_) (fun zc => absurd (z3 hi) zc)
  refine lv_aload_n hx hb dX11_bookOf_20 rfl (lv_at hl 0 rfl) ?_
  refine va_get (D := D) (ci := 0) (v := .ref xb) (C := "KindredBooks") (T := T_zk0) (N := 12) hx hb hw in_zk0 hown hK hP 0 rfl rfl 4 (by decide) (hw _ mw_350) (fun _ h9 => h9) rfl dX11_bookOf_21 ?_
  refine lv_iload_n hx hb dX11_bookOf_24 rfl (lv_at hl 1 rfl) ?_
  refine va_aldq hx hb hK hP 1 6 rfl rfl (vp_in_nI hi (by omega)) dX11_bookOf_25 ?_
  refine W.eq (g2 := F0 m 26 ls [.ref bk]) (by rw [nI_clamp (by omega), hf]; rfl) ?_
  have hP9 := hP.sub (ws' := [(ax, .inr (0, [.ref xt, .ref xp, .ref xs, .ref xl, .ref xb, .ref xk, .ref xm, .ref xq, .ref xg, .ref xf, .ref xe, .int 49])), (xb, .inl (dA 6, 3, .inr (.inr (.inr (.inr fb)))))]) [0, 1] rfl
  have hD9 := hD.sub (ws' := [(ax, .inr (0, [.ref xt, .ref xp, .ref xs, .ref xl, .ref xb, .ref xk, .ref xm, .ref xq, .ref xg, .ref xf, .ref xe, .int 49])), (xb, .inl (dA 6, 3, .inr (.inr (.inr (.inr fb)))))]) [0, 1] (by decide) rfl
  exact W.aret (v := .ref bk) hx hb hr (Or.inl ⟨_, rfl⟩) (Or.inr ⟨_, rfl⟩) (fun t ht hW => ⟨⟨(some bk), (), rfl, rfl, by rw [ht]; exact hP9, hD9⟩, hS.F ht⟩) hS.2.2 dX11_bookOf_26
set_option maxHeartbeats 4000000 in
set_option maxRecDepth 100000 in
/-- checkRoom: there is -/
theorem c_checkRoom (l : Launch) (D : va_G) (dA : Nat → ClassId) (dZ : Nat → Nat) (sz : Nat) (ax : Nat) (xt : Nat) (xp : Nat) (xs : Nat) (xl : Nat) (xb : Nat) (xk : Nat) (xm : Nat) (xq : Nat) (xg : Nat) (xf : Nat) (xe : Nat) (bl : Nat) (no : Nat) (ro : Nat) : Met l yX11_checkRoom (wz yX11_checkRoom cX11_checkRoom 1 none) ({ frames := 0, cells := 0, slots := 0, locals := 0 } : Room) (va_Pc [.ref ax] (zP D dA dZ [(ax, .inr (0, [.ref xt, .ref xp, .ref xs, .ref xl, .ref xb, .ref xk, .ref xm, .ref xq, .ref xg, .ref xf, .ref xe, .int 49])), (xl, .inr (2, [.ref bl, .ref no, .ref ro, .int 0]))] sz)) (va_Qv (fun (_ : Unit) => True) (fun _ => zB D (va_A [(ax, .inr (0, [.ref xt, .ref xp, .ref xs, .ref xl, .ref xb, .ref xk, .ref xm, .ref xq, .ref xg, .ref xf, .ref xe, .int 49])), (xl, .inr (2, [.ref bl, .ref no, .ref ro, .int 0]))] sz) [(ax, .inr (0, [.ref xt, .ref xp, .ref xs, .ref xl, .ref xb, .ref xk, .ref xm, .ref xq, .ref xg, .ref xf, .ref xe, .int 49])), (xl, .inr (2, [.ref bl, .ref no, .ref ro, .int 0]))]) (va_A [(ax, .inr (0, [.ref xt, .ref xp, .ref xs, .ref xl, .ref xb, .ref xk, .ref xm, .ref xq, .ref xg, .ref xf, .ref xe, .int 49])), (xl, .inr (2, [.ref bl, .ref no, .ref ro, .int 0]))] sz)) 0 0 (va_A [(ax, .inr (0, [.ref xt, .ref xp, .ref xs, .ref xl, .ref xb, .ref xk, .ref xm, .ref xq, .ref xg, .ref xf, .ref xe, .int 49])), (xl, .inr (2, [.ref bl, .ref no, .ref ro, .int 0]))] sz) := by
  refine Met.ofW (cc := cX11_checkRoom) (maxL := 1) (ret := none) (by decide) rfl ?_
  intro p e s m args below meth c s₁ B hml hv
  obtain ⟨rfl, hsz, hP, hK, hD0, hT, hE⟩ := hv
  have hx := B.exec
  have hb := B.bytes
  have hr := B.returns
  have hw := wz_hw (atoms_spec (ws := wz yX11_checkRoom cX11_checkRoom 1 none) B.pre)
  have hown : s.vm.findClass "KindredBooks" = some m.cls := findClass_of_methodNamed B.named
  have hlocks := B.notSynchronized
  have hn := hT.1.use (args := ([.ref ax] : List Value).toArray)
  subst hsz
  have hD := hD0.self (sz := s.heap.size)
  generalize hAe : va_A [(ax, .inr (0, [.ref xt, .ref xp, .ref xs, .ref xl, .ref xb, .ref xk, .ref xm, .ref xq, .ref xg, .ref xf, .ref xe, .int 49])), (xl, .inr (2, [.ref bl, .ref no, .ref ro, .int 0]))] s.heap.size = A at hD hE ⊢
  have hA : ∀ q : Nat, s.heap.size ≤ q → A q := fun q h => by rw [← hAe]; exact Or.inr h
  have hS : va_S A s.heap s.heap [] := va_S.rf
  replace hP : va_P D zcl [(ax, .inr (0, [.ref xt, .ref xp, .ref xs, .ref xl, .ref xb, .ref xk, .ref xm, .ref xq, .ref xg, .ref xf, .ref xe, .int 49])), (xl, .inr (2, [.ref bl, .ref no, .ref ro, .int 0]))] s.heap := hP
  have hl := lv_entry ([.ref ax]) (n := 1) (Nat.le_of_ble_eq_true rfl)
  rw [lg_entry_eq]
  generalize (lg_sl ([.ref ax]) ++ List.replicate (1 - (lg_sl ([.ref ax])).length) Slot.unset).toArray = ls at hl ⊢
  replace hl : lv_has ls 1 [(0, .ref ax)] := hl
  refine lv_aload_n hx hb dX11_checkRoom_0 rfl (lv_at hl 0 rfl) ?_
  refine va_get (D := D) (ci := 0) (v := .ref xl) (C := "KindredBooks") (T := T_zk0) (N := 12) hx hb hw in_zk0 hown hK hP 0 rfl rfl 3 (by decide) (hw _ mw_349) (fun _ h9 => h9) rfl dX11_checkRoom_1 ?_
  refine va_getN (D := D) (ci := 2) (v := .int 0) (C := "KindredBooks$Ledger") (T := T_zk2) (N := 4) hx hb hw in_zk2 hown hK hP 1 rfl rfl 3 (by decide) (hn _ mn_170) (fun _ h9 => h9) rfl dX11_checkRoom_4 ?_
  refine lv_sipush (v := 250) hx hb dX11_checkRoom_7 (by decide) ?_
  refine lv_icmp_lt (tgt := 24) hx hb dX11_checkRoom_10 (by decide) (fun _ => ?_) (fun zc => absurd (by decide) zc)
  have hP9 := hP.sub (ws' := [(ax, .inr (0, [.ref xt, .ref xp, .ref xs, .ref xl, .ref xb, .ref xk, .ref xm, .ref xq, .ref xg, .ref xf, .ref xe, .int 49])), (xl, .inr (2, [.ref bl, .ref no, .ref ro, .int 0]))]) [0, 1] rfl
  have hD9 := hD.sub (ws' := [(ax, .inr (0, [.ref xt, .ref xp, .ref xs, .ref xl, .ref xb, .ref xk, .ref xm, .ref xq, .ref xg, .ref xf, .ref xe, .int 49])), (xl, .inr (2, [.ref bl, .ref no, .ref ro, .int 0]))]) [0, 1] (by decide) rfl
  exact W.vret hx hb hr (fun t ht hW => ⟨⟨(), rfl, trivial, by rw [ht]; exact hP9, hD9⟩, hS.F ht⟩) hS.2.2 dX11_checkRoom_24
set_option maxHeartbeats 4000000 in
set_option maxRecDepth 100000 in
/-- checkKind: a kind -/
theorem c_checkKind (l : Launch) (D : va_G) (dA : Nat → ClassId) (dZ : Nat → Nat) (sz : Nat) (ax : Nat) (b : Int32) (h1 : ¬ b < 0) (h2 : b ≤ 4) : Met l yX11_checkKind (wz yX11_checkKind cX11_checkKind 2 none) ({ frames := 0, cells := 0, slots := 0, locals := 0 } : Room) (va_Pc [.ref ax, .int b] (zP D dA dZ [] sz)) (va_Qv (fun (_ : Unit) => True) (fun _ => zB D (va_A [] sz) []) (va_A [] sz)) 0 0 (va_A [] sz) := by
  refine Met.ofW (cc := cX11_checkKind) (maxL := 2) (ret := none) (by decide) rfl ?_
  intro p e s m args below meth c s₁ B hml hv
  obtain ⟨rfl, hsz, hP, hK, hD0, hT, hE⟩ := hv
  have hx := B.exec
  have hb := B.bytes
  have hr := B.returns
  have hw := wz_hw (atoms_spec (ws := wz yX11_checkKind cX11_checkKind 2 none) B.pre)
  have hown : s.vm.findClass "KindredBooks" = some m.cls := findClass_of_methodNamed B.named
  have hlocks := B.notSynchronized
  have hn := hT.1.use (args := ([.ref ax, .int b] : List Value).toArray)
  subst hsz
  have hD := hD0.self (sz := s.heap.size)
  generalize hAe : va_A [] s.heap.size = A at hD hE ⊢
  have hA : ∀ q : Nat, s.heap.size ≤ q → A q := fun q h => by rw [← hAe]; exact Or.inr h
  have hS : va_S A s.heap s.heap [] := va_S.rf
  replace hP : va_P D zcl [] s.heap := hP
  have hl := lv_entry ([.ref ax, .int b]) (n := 2) (Nat.le_of_ble_eq_true rfl)
  rw [lg_entry_eq]
  generalize (lg_sl ([.ref ax, .int b]) ++ List.replicate (2 - (lg_sl ([.ref ax, .int b])).length) Slot.unset).toArray = ls at hl ⊢
  replace hl : lv_has ls 2 [(0, .ref ax), (1, .int b)] := hl
  refine lv_iload_n hx hb dX11_checkKind_0 rfl (lv_at hl 1 rfl) ?_
  refine lv_if_lt (tgt := 9) hx hb dX11_checkKind_1 (by decide) (fun zc => absurd zc h1) (fun _ => ?_)
  refine lv_iload_n hx hb dX11_checkKind_4 rfl (lv_at hl 1 rfl) ?_
  refine lv_iconst (v := 4) hx hb dX11_checkKind_5 (by decide) ?_
  refine lv_icmp_le (tgt := 20) hx hb dX11_checkKind_6 (by decide) (fun _ => ?_) (fun zc => absurd h2 zc)
  have hP9 := hP.sub (ws' := []) [] rfl
  have hD9 := hD.sub (ws' := []) [] (by decide) rfl
  exact W.vret hx hb hr (fun t ht hW => ⟨⟨(), rfl, trivial, by rw [ht]; exact hP9, hD9⟩, hS.F ht⟩) hS.2.2 dX11_checkKind_20
set_option maxHeartbeats 4000000 in
set_option maxRecDepth 100000 in
/-- checkKind: none -/
theorem c_checkKind_lo (l : Launch) (D : va_G) (dA : Nat → ClassId) (dZ : Nat → Nat) (sz : Nat) (hfl : l.stackTraces = false) (ax : Nat) (b : Int32) (h1 : b < 0) : vx_Met l yX11_checkKind (wz yX11_checkKind cX11_checkKind 2 none) ({ frames := 6, cells := 1, slots := 6, locals := 100 } : Room) (va_Pc [.ref ax, .int b] (zP D dA dZ [] sz)) zNo (zX "java/lang/IllegalArgumentException" (va_A [] sz)) 1 6 (va_A [] sz) := by
  refine vx_ofW (cc := cX11_checkKind) (maxL := 2) (ret := none) (by decide) rfl ?_
  intro p e s m args below meth c s₁ B hml hno hv
  obtain ⟨rfl, hsz, hP, hK, hD0, hT, hE⟩ := hv
  have hx := B.exec
  have hb := B.bytes
  have hr := B.returns
  have hw := wz_hw (atoms_spec (ws := wz yX11_checkKind cX11_checkKind 2 none) B.pre)
  have hown : s.vm.findClass "KindredBooks" = some m.cls := findClass_of_methodNamed B.named
  have hlocks := B.notSynchronized
  have hn := hT.1.use (args := ([.ref ax, .int b] : List Value).toArray)
  subst hsz
  have hD := hD0.self (sz := s.heap.size)
  generalize hAe : va_A [] s.heap.size = A at hD hE ⊢
  have hA : ∀ q : Nat, s.heap.size ≤ q → A q := fun q h => by rw [← hAe]; exact Or.inr h
  have hS : va_S A s.heap s.heap [] := va_S.rf
  replace hP : va_P D zcl [] s.heap := hP
  have hl := lv_entry ([.ref ax, .int b]) (n := 2) (Nat.le_of_ble_eq_true rfl)
  rw [lg_entry_eq]
  generalize (lg_sl ([.ref ax, .int b]) ++ List.replicate (2 - (lg_sl ([.ref ax, .int b])).length) Slot.unset).toArray = ls at hl ⊢
  replace hl : lv_has ls 2 [(0, .ref ax), (1, .int b)] := hl
  refine lv_iload_n hx hb dX11_checkKind_0 rfl (lv_at hl 1 rfl) ?_
  refine lv_if_lt (tgt := 9) hx hb dX11_checkKind_1 (by decide) (fun _ => ?_) (fun zc => absurd h1 zc)
  obtain ⟨sa, hsa⟩ := hT.2.1 ("KindredBooks", 404, "there is no such kind of lines") (by decide)
  exact vx_throwSW (own := "KindredBooks") (cls := "java/lang/IllegalArgumentException") (names := ["java/lang/RuntimeException", "java/lang/Exception"]) (XC := zX "java/lang/IllegalArgumentException" A) hx hb hfl hown (by decide) (by decide) (hw _ mw_540) (hw _ mw_33) hsa (z_at hw hT.1 xat_KindredBooks_102_IllegalArgumentException) xgd_KindredBooks_102_98 hE.2.2.2.2.2.1 hE.2.2.2.2.2.2 hS (hl.1.trans hml.symm) dX11_checkKind_9 dX11_checkKind_12 dX11_checkKind_13 dX11_checkKind_16 dX11_checkKind_19 (fun x hx => (hno x hx).elim) (Nat.le_of_ble_eq_true rfl) (Nat.le_of_ble_eq_true rfl) (Nat.le_of_ble_eq_true rfl) (Nat.le_of_ble_eq_true rfl) hlocks (fun t _ h1 h2 => zX_of hS h1 h2) hS.2.2 (Nat.le_of_ble_eq_true rfl) (Nat.le_of_ble_eq_true rfl)
set_option maxHeartbeats 4000000 in
set_option maxRecDepth 100000 in
/-- checkKind: none -/
theorem c_checkKind_hi (l : Launch) (D : va_G) (dA : Nat → ClassId) (dZ : Nat → Nat) (sz : Nat) (hfl : l.stackTraces = false) (ax : Nat) (b : Int32) (h1 : ¬ b < 0) (h2 : 4 < b) : vx_Met l yX11_checkKind (wz yX11_checkKind cX11_checkKind 2 none) ({ frames := 6, cells := 1, slots := 6, locals := 100 } : Room) (va_Pc [.ref ax, .int b] (zP D dA dZ [] sz)) zNo (zX "java/lang/IllegalArgumentException" (va_A [] sz)) 1 6 (va_A [] sz) := by
  refine vx_ofW (cc := cX11_checkKind) (maxL := 2) (ret := none) (by decide) rfl ?_
  intro p e s m args below meth c s₁ B hml hno hv
  obtain ⟨rfl, hsz, hP, hK, hD0, hT, hE⟩ := hv
  have hx := B.exec
  have hb := B.bytes
  have hr := B.returns
  have hw := wz_hw (atoms_spec (ws := wz yX11_checkKind cX11_checkKind 2 none) B.pre)
  have hown : s.vm.findClass "KindredBooks" = some m.cls := findClass_of_methodNamed B.named
  have hlocks := B.notSynchronized
  have hn := hT.1.use (args := ([.ref ax, .int b] : List Value).toArray)
  subst hsz
  have hD := hD0.self (sz := s.heap.size)
  generalize hAe : va_A [] s.heap.size = A at hD hE ⊢
  have hA : ∀ q : Nat, s.heap.size ≤ q → A q := fun q h => by rw [← hAe]; exact Or.inr h
  have hS : va_S A s.heap s.heap [] := va_S.rf
  replace hP : va_P D zcl [] s.heap := hP
  have hl := lv_entry ([.ref ax, .int b]) (n := 2) (Nat.le_of_ble_eq_true rfl)
  rw [lg_entry_eq]
  generalize (lg_sl ([.ref ax, .int b]) ++ List.replicate (2 - (lg_sl ([.ref ax, .int b])).length) Slot.unset).toArray = ls at hl ⊢
  replace hl : lv_has ls 2 [(0, .ref ax), (1, .int b)] := hl
  refine lv_iload_n hx hb dX11_checkKind_0 rfl (lv_at hl 1 rfl) ?_
  refine lv_if_lt (tgt := 9) hx hb dX11_checkKind_1 (by decide) (fun zc => absurd zc h1) (fun _ => ?_)
  refine lv_iload_n hx hb dX11_checkKind_4 rfl (lv_at hl 1 rfl) ?_
  refine lv_iconst (v := 4) hx hb dX11_checkKind_5 (by decide) ?_
  refine lv_icmp_le (tgt := 20) hx hb dX11_checkKind_6 (by decide) (fun zc => absurd zc (Int32.not_le.mpr h2)) (fun _ => ?_)
  obtain ⟨sa, hsa⟩ := hT.2.1 ("KindredBooks", 404, "there is no such kind of lines") (by decide)
  exact vx_throwSW (own := "KindredBooks") (cls := "java/lang/IllegalArgumentException") (names := ["java/lang/RuntimeException", "java/lang/Exception"]) (XC := zX "java/lang/IllegalArgumentException" A) hx hb hfl hown (by decide) (by decide) (hw _ mw_540) (hw _ mw_33) hsa (z_at hw hT.1 xat_KindredBooks_102_IllegalArgumentException) xgd_KindredBooks_102_98 hE.2.2.2.2.2.1 hE.2.2.2.2.2.2 hS (hl.1.trans hml.symm) dX11_checkKind_9 dX11_checkKind_12 dX11_checkKind_13 dX11_checkKind_16 dX11_checkKind_19 (fun x hx => (hno x hx).elim) (Nat.le_of_ble_eq_true rfl) (Nat.le_of_ble_eq_true rfl) (Nat.le_of_ble_eq_true rfl) (Nat.le_of_ble_eq_true rfl) hlocks (fun t _ h1 h2 => zX_of hS h1 h2) hS.2.2 (Nat.le_of_ble_eq_true rfl) (Nat.le_of_ble_eq_true rfl)
end
section
abbrev cX1_isStanding : ByteArray := prog_3_method_10_code
def yX1_isStanding : MethodName := ⟨"KindredBooks$Book", "isStanding", "(I)Z"⟩
theorem mw_680 : (Jvm.Cond.code ({ cls := "KindredBooks$Book", name := "isStanding", desc := "(I)Z" } : Jvm.MethodName) prog_3_method_10_code (2 : Nat) (Option.some Jvm.ClassFile.FieldType.boolean)) ∈ W0 := W0_of (List.mem_append_right _ (List.mem_of_getElem? (i := 680) (by decide +kernel))) rfl
theorem dX1_isStanding_0 : decode cX1_isStanding 0 = .ok (.iload_n 1, 1) := by decide +kernel
theorem dX1_isStanding_1 : decode cX1_isStanding 1 = .ok (.ifCond .lt 23, 3) := by decide +kernel
theorem dX1_isStanding_24 : decode cX1_isStanding 24 = .ok (.iconst 0, 1) := by decide +kernel
theorem dX1_isStanding_25 : decode cX1_isStanding 25 = .ok (.ireturn, 1) := by decide +kernel
theorem dX1_isStanding_4 : decode cX1_isStanding 4 = .ok (.iload_n 1, 1) := by decide +kernel
theorem dX1_isStanding_5 : decode cX1_isStanding 5 = .ok (.sipush 250, 3) := by decide +kernel
theorem dX1_isStanding_8 : decode cX1_isStanding 8 = .ok (.if_icmp .ge 16, 3) := by decide +kernel
theorem dX1_isStanding_11 : decode cX1_isStanding 11 = .ok (.aload_n 0, 1) := by decide +kernel
theorem dX1_isStanding_12 : decode cX1_isStanding 12 = .ok (.getfield 18, 3) := by decide +kernel
theorem mw_272 : (Jvm.Cond.fieldLink "KindredBooks$Book" (18 : Nat) "KindredBooks$Book" "standing" "[Z") ∈ W0 := W0_of (List.mem_append_right _ (List.mem_of_getElem? (i := 272) (by decide +kernel))) rfl
theorem dX1_isStanding_15 : decode cX1_isStanding 15 = .ok (.iload_n 1, 1) := by decide +kernel
theorem dX1_isStanding_16 : decode cX1_isStanding 16 = .ok (.baload, 1) := by decide +kernel
theorem dX1_isStanding_17 : decode cX1_isStanding 17 = .ok (.ifCond .eq 7, 3) := by decide +kernel
abbrev cX1_isCounting : ByteArray := prog_3_method_9_code
def yX1_isCounting : MethodName := ⟨"KindredBooks$Book", "isCounting", "(I)Z"⟩
theorem mw_797 : (Jvm.Cond.code ({ cls := "KindredBooks$Book", name := "isCounting", desc := "(I)Z" } : Jvm.MethodName) prog_3_method_9_code (2 : Nat) (Option.some Jvm.ClassFile.FieldType.boolean)) ∈ W0 := W0_of (List.mem_append_right _ (List.mem_of_getElem? (i := 797) (by decide +kernel))) rfl
theorem dX1_isCounting_0 : decode cX1_isCounting 0 = .ok (.iload_n 1, 1) := by decide +kernel
theorem dX1_isCounting_1 : decode cX1_isCounting 1 = .ok (.ifCond .lt 23, 3) := by decide +kernel
theorem dX1_isCounting_24 : decode cX1_isCounting 24 = .ok (.iconst 0, 1) := by decide +kernel
theorem dX1_isCounting_25 : decode cX1_isCounting 25 = .ok (.ireturn, 1) := by decide +kernel
theorem dX1_isCounting_4 : decode cX1_isCounting 4 = .ok (.iload_n 1, 1) := by decide +kernel
theorem dX1_isCounting_5 : decode cX1_isCounting 5 = .ok (.sipush 250, 3) := by decide +kernel
theorem dX1_isCounting_8 : decode cX1_isCounting 8 = .ok (.if_icmp .ge 16, 3) := by decide +kernel
theorem dX1_isCounting_11 : decode cX1_isCounting 11 = .ok (.aload_n 0, 1) := by decide +kernel
theorem dX1_isCounting_12 : decode cX1_isCounting 12 = .ok (.getfield 15, 3) := by decide +kernel
theorem mw_271 : (Jvm.Cond.fieldLink "KindredBooks$Book" (15 : Nat) "KindredBooks$Book" "counting" "[Z") ∈ W0 := W0_of (List.mem_append_right _ (List.mem_of_getElem? (i := 271) (by decide +kernel))) rfl
theorem dX1_isCounting_15 : decode cX1_isCounting 15 = .ok (.iload_n 1, 1) := by decide +kernel
theorem dX1_isCounting_16 : decode cX1_isCounting 16 = .ok (.baload, 1) := by decide +kernel
theorem dX1_isCounting_17 : decode cX1_isCounting 17 = .ok (.ifCond .eq 7, 3) := by decide +kernel
abbrev cX1_isKnown : ByteArray := prog_3_method_8_code
def yX1_isKnown : MethodName := ⟨"KindredBooks$Book", "isKnown", "(I)Z"⟩
theorem mw_825 : (Jvm.Cond.code ({ cls := "KindredBooks$Book", name := "isKnown", desc := "(I)Z" } : Jvm.MethodName) prog_3_method_8_code (2 : Nat) (Option.some Jvm.ClassFile.FieldType.boolean)) ∈ W0 := W0_of (List.mem_append_right _ (List.mem_of_getElem? (i := 825) (by decide +kernel))) rfl
theorem dX1_isKnown_0 : decode cX1_isKnown 0 = .ok (.iload_n 1, 1) := by decide +kernel
theorem dX1_isKnown_1 : decode cX1_isKnown 1 = .ok (.ifCond .lt 23, 3) := by decide +kernel
theorem dX1_isKnown_24 : decode cX1_isKnown 24 = .ok (.iconst 0, 1) := by decide +kernel
theorem dX1_isKnown_25 : decode cX1_isKnown 25 = .ok (.ireturn, 1) := by decide +kernel
theorem dX1_isKnown_4 : decode cX1_isKnown 4 = .ok (.iload_n 1, 1) := by decide +kernel
theorem dX1_isKnown_5 : decode cX1_isKnown 5 = .ok (.sipush 250, 3) := by decide +kernel
theorem dX1_isKnown_8 : decode cX1_isKnown 8 = .ok (.if_icmp .ge 16, 3) := by decide +kernel
theorem dX1_isKnown_11 : decode cX1_isKnown 11 = .ok (.aload_n 0, 1) := by decide +kernel
theorem dX1_isKnown_12 : decode cX1_isKnown 12 = .ok (.getfield 9, 3) := by decide +kernel
theorem mw_270 : (Jvm.Cond.fieldLink "KindredBooks$Book" (9 : Nat) "KindredBooks$Book" "knows" "[Z") ∈ W0 := W0_of (List.mem_append_right _ (List.mem_of_getElem? (i := 270) (by decide +kernel))) rfl
theorem dX1_isKnown_15 : decode cX1_isKnown 15 = .ok (.iload_n 1, 1) := by decide +kernel
theorem dX1_isKnown_16 : decode cX1_isKnown 16 = .ok (.baload, 1) := by decide +kernel
theorem dX1_isKnown_17 : decode cX1_isKnown 17 = .ok (.ifCond .eq 7, 3) := by decide +kernel
abbrev cX6_at : ByteArray := prog_8_method_2_code
def yX6_at : MethodName := ⟨"KindredBooks$Ledger", "at", "(I)LKindredBooks$Change;"⟩
theorem mw_559 : (Jvm.Cond.code ({ cls := "KindredBooks$Ledger", name := "at", desc := "(I)LKindredBooks$Change;" } : Jvm.MethodName) prog_8_method_2_code (2 : Nat) (Option.some (Jvm.ClassFile.FieldType.object "KindredBooks$Change"))) ∈ W0 := W0_of (List.mem_append_right _ (List.mem_of_getElem? (i := 559) (by decide +kernel))) rfl
theorem dX6_at_0 : decode cX6_at 0 = .ok (.iload_n 1, 1) := by decide +kernel
theorem dX6_at_1 : decode cX6_at 1 = .ok (.ifCond .lt 20, 3) := by decide +kernel
theorem dX6_at_21 : decode cX6_at 21 = .ok (.aload_n 0, 1) := by decide +kernel
theorem dX6_at_22 : decode cX6_at 22 = .ok (.getfield 23, 3) := by decide +kernel
theorem mw_165 : (Jvm.Cond.fieldLink "KindredBooks$Ledger" (23 : Nat) "KindredBooks$Ledger" "nothing" "LKindredBooks$Change;") ∈ W0 := W0_of (List.mem_append_right _ (List.mem_of_getElem? (i := 165) (by decide +kernel))) rfl
theorem dX6_at_25 : decode cX6_at 25 = .ok (.areturn, 1) := by decide +kernel
theorem dX6_at_4 : decode cX6_at 4 = .ok (.iload_n 1, 1) := by decide +kernel
theorem dX6_at_5 : decode cX6_at 5 = .ok (.aload_n 0, 1) := by decide +kernel
theorem dX6_at_6 : decode cX6_at 6 = .ok (.getfield 31, 3) := by decide +kernel
theorem mw_168 : (Jvm.Cond.fieldLink "KindredBooks$Ledger" (31 : Nat) "KindredBooks$Ledger" "size" "I") ∈ W0 := W0_of (List.mem_append_right _ (List.mem_of_getElem? (i := 168) (by decide +kernel))) rfl
theorem dX6_at_9 : decode cX6_at 9 = .ok (.if_icmp .ge 12, 3) := by decide +kernel
abbrev cX1_isLive : ByteArray := prog_3_method_11_code
def yX1_isLive : MethodName := ⟨"KindredBooks$Book", "isLive", "(I)Z"⟩
theorem mw_676 : (Jvm.Cond.code ({ cls := "KindredBooks$Book", name := "isLive", desc := "(I)Z" } : Jvm.MethodName) prog_3_method_11_code (2 : Nat) (Option.some Jvm.ClassFile.FieldType.boolean)) ∈ W0 := W0_of (List.mem_append_right _ (List.mem_of_getElem? (i := 676) (by decide +kernel))) rfl
theorem dX1_isLive_0 : decode cX1_isLive 0 = .ok (.aload_n 0, 1) := by decide +kernel
theorem dX1_isLive_1 : decode cX1_isLive 1 = .ok (.iload_n 1, 1) := by decide +kernel
theorem dX1_isLive_2 : decode cX1_isLive 2 = .ok (.invokevirtual 88, 3) := by decide +kernel
theorem mw_677 : (Jvm.Cond.methodLink "KindredBooks$Book" (88 : Nat) ({ cls := "KindredBooks$Book", name := "isStanding", desc := "(I)Z" } : Jvm.MethodName)) ∈ W0 := W0_of (List.mem_append_right _ (List.mem_of_getElem? (i := 677) (by decide +kernel))) rfl
theorem mw_678 : (Jvm.Cond.instanceMethod ({ cls := "KindredBooks$Book", name := "isStanding", desc := "(I)Z" } : Jvm.MethodName)) ∈ W0 := W0_of (List.mem_append_right _ (List.mem_of_getElem? (i := 678) (by decide +kernel))) rfl
theorem mw_679 : (Jvm.Cond.selects "KindredBooks$Book" ({ cls := "KindredBooks$Book", name := "isStanding", desc := "(I)Z" } : Jvm.MethodName) ({ cls := "KindredBooks$Book", name := "isStanding", desc := "(I)Z" } : Jvm.MethodName)) ∈ W0 := W0_of (List.mem_append_right _ (List.mem_of_getElem? (i := 679) (by decide +kernel))) rfl
theorem mw_9 : (Jvm.Cond.initialized "KindredBooks$Book") ∈ W0 := W0_of (List.mem_append_right _ (List.mem_of_getElem? (i := 9) (by decide +kernel))) rfl
theorem dX1_isLive_5 : decode cX1_isLive 5 = .ok (.ifCond .eq 21, 3) := by decide +kernel
theorem dX1_isLive_26 : decode cX1_isLive 26 = .ok (.iconst 0, 1) := by decide +kernel
theorem dX1_isLive_27 : decode cX1_isLive 27 = .ok (.ireturn, 1) := by decide +kernel
abbrev cX11_checkLive : ByteArray := prog_1_method_54_code
def yX11_checkLive : MethodName := ⟨"KindredBooks", "checkLive", "(LKindredBooks$Book;I)V"⟩
theorem mw_698 : (Jvm.Cond.code ({ cls := "KindredBooks", name := "checkLive", desc := "(LKindredBooks$Book;I)V" } : Jvm.MethodName) prog_1_method_54_code (3 : Nat) (Option.none : Option Jvm.ClassFile.FieldType)) ∈ W0 := W0_of (List.mem_append_right _ (List.mem_of_getElem? (i := 698) (by decide +kernel))) rfl
theorem dX11_checkLive_0 : decode cX11_checkLive 0 = .ok (.aload_n 1, 1) := by decide +kernel
theorem dX11_checkLive_1 : decode cX11_checkLive 1 = .ok (.iload_n 2, 1) := by decide +kernel
theorem dX11_checkLive_2 : decode cX11_checkLive 2 = .ok (.invokevirtual 406, 3) := by decide +kernel
theorem mw_699 : (Jvm.Cond.methodLink "KindredBooks" (406 : Nat) ({ cls := "KindredBooks$Book", name := "isLive", desc := "(I)Z" } : Jvm.MethodName)) ∈ W0 := W0_of (List.mem_append_right _ (List.mem_of_getElem? (i := 699) (by decide +kernel))) rfl
theorem mw_674 : (Jvm.Cond.instanceMethod ({ cls := "KindredBooks$Book", name := "isLive", desc := "(I)Z" } : Jvm.MethodName)) ∈ W0 := W0_of (List.mem_append_right _ (List.mem_of_getElem? (i := 674) (by decide +kernel))) rfl
theorem mw_675 : (Jvm.Cond.selects "KindredBooks$Book" ({ cls := "KindredBooks$Book", name := "isLive", desc := "(I)Z" } : Jvm.MethodName) ({ cls := "KindredBooks$Book", name := "isLive", desc := "(I)Z" } : Jvm.MethodName)) ∈ W0 := W0_of (List.mem_append_right _ (List.mem_of_getElem? (i := 675) (by decide +kernel))) rfl
theorem dX11_checkLive_5 : decode cX11_checkLive 5 = .ok (.ifCond .ne 14, 3) := by decide +kernel
theorem dX11_checkLive_8 : decode cX11_checkLive 8 = .ok (.new 169, 3) := by decide +kernel
theorem dX11_checkLive_11 : decode cX11_checkLive 11 = .ok (.dup, 1) := by decide +kernel
theorem dX11_checkLive_12 : decode cX11_checkLive 12 = .ok (.ldc_w 409, 3) := by decide +kernel
theorem dX11_checkLive_15 : decode cX11_checkLive 15 = .ok (.invokespecial 173, 3) := by decide +kernel
theorem dX11_checkLive_18 : decode cX11_checkLive 18 = .ok (.athrow, 1) := by decide +kernel
theorem xat_KindredBooks_173_NoSuchElementException : ∀ w ∈ zn_at "KindredBooks" 173, w ∈ lw_tbl ∧ (goodWord w || isN w) = true := by decide +kernel
theorem mw_700 : (Jvm.Cond.classLink "KindredBooks" (169 : Nat) "java/util/NoSuchElementException") ∈ W0 := W0_of (List.mem_append_right _ (List.mem_of_getElem? (i := 700) (by decide +kernel))) rfl
theorem mw_38 : (Jvm.Cond.initialized "java/util/NoSuchElementException") ∈ W0 := W0_of (List.mem_append_right _ (List.mem_of_getElem? (i := 38) (by decide +kernel))) rfl
theorem xgd_KindredBooks_173_169 : ∀ w ∈ Cond.classLink "KindredBooks" 169 znX :: Cond.initialized znX :: zn_at "KindredBooks" 173, vx_ot w = true := by decide +kernel
abbrev cX11_checkChange : ByteArray := prog_1_method_51_code
def yX11_checkChange : MethodName := ⟨"KindredBooks", "checkChange", "(I)V"⟩
theorem mw_792 : (Jvm.Cond.code ({ cls := "KindredBooks", name := "checkChange", desc := "(I)V" } : Jvm.MethodName) prog_1_method_51_code (2 : Nat) (Option.none : Option Jvm.ClassFile.FieldType)) ∈ W0 := W0_of (List.mem_append_right _ (List.mem_of_getElem? (i := 792) (by decide +kernel))) rfl
theorem dX11_checkChange_0 : decode cX11_checkChange 0 = .ok (.iload_n 1, 1) := by decide +kernel
theorem dX11_checkChange_1 : decode cX11_checkChange 1 = .ok (.ifCond .lt 14, 3) := by decide +kernel
theorem dX11_checkChange_15 : decode cX11_checkChange 15 = .ok (.new 212, 3) := by decide +kernel
theorem dX11_checkChange_18 : decode cX11_checkChange 18 = .ok (.dup, 1) := by decide +kernel
theorem dX11_checkChange_19 : decode cX11_checkChange 19 = .ok (.ldc_w 400, 3) := by decide +kernel
theorem dX11_checkChange_22 : decode cX11_checkChange 22 = .ok (.invokespecial 216, 3) := by decide +kernel
theorem dX11_checkChange_25 : decode cX11_checkChange 25 = .ok (.athrow, 1) := by decide +kernel
theorem dX11_checkChange_4 : decode cX11_checkChange 4 = .ok (.iload_n 1, 1) := by decide +kernel
theorem dX11_checkChange_5 : decode cX11_checkChange 5 = .ok (.aload_n 0, 1) := by decide +kernel
theorem dX11_checkChange_6 : decode cX11_checkChange 6 = .ok (.getfield 27, 3) := by decide +kernel
theorem dX11_checkChange_9 : decode cX11_checkChange 9 = .ok (.getfield 103, 3) := by decide +kernel
theorem dX11_checkChange_12 : decode cX11_checkChange 12 = .ok (.if_icmp .lt 14, 3) := by decide +kernel
abbrev cX11_rowOf : ByteArray := prog_1_method_55_code
def yX11_rowOf : MethodName := ⟨"KindredBooks", "rowOf", "(LKindredBooks$Answers;I)J"⟩
theorem mw_1200 : (Jvm.Cond.code ({ cls := "KindredBooks", name := "rowOf", desc := "(LKindredBooks$Answers;I)J" } : Jvm.MethodName) prog_1_method_55_code (3 : Nat) (Option.some Jvm.ClassFile.FieldType.long)) ∈ W0 := W0_of (List.mem_append_right _ (List.mem_of_getElem? (i := 1200) (by decide +kernel))) rfl
theorem dX11_rowOf_0 : decode cX11_rowOf 0 = .ok (.iload_n 2, 1) := by decide +kernel
theorem dX11_rowOf_1 : decode cX11_rowOf 1 = .ok (.ifCond .lt 11, 3) := by decide +kernel
theorem dX11_rowOf_12 : decode cX11_rowOf 12 = .ok (.new 212, 3) := by decide +kernel
theorem dX11_rowOf_15 : decode cX11_rowOf 15 = .ok (.dup, 1) := by decide +kernel
theorem dX11_rowOf_16 : decode cX11_rowOf 16 = .ok (.ldc_w 411, 3) := by decide +kernel
theorem dX11_rowOf_19 : decode cX11_rowOf 19 = .ok (.invokespecial 216, 3) := by decide +kernel
theorem dX11_rowOf_22 : decode cX11_rowOf 22 = .ok (.athrow, 1) := by decide +kernel
theorem dX11_rowOf_4 : decode cX11_rowOf 4 = .ok (.iload_n 2, 1) := by decide +kernel
theorem dX11_rowOf_5 : decode cX11_rowOf 5 = .ok (.aload_n 1, 1) := by decide +kernel
theorem dX11_rowOf_6 : decode cX11_rowOf 6 = .ok (.getfield 279, 3) := by decide +kernel
theorem mn_255 : (Jvm.Cond.fieldLinkNest "KindredBooks" (279 : Nat) "KindredBooks$Answers" "size" "I" "KindredBooks") ∈ N0 := N0_of (List.mem_append_right _ (List.mem_of_getElem? (i := 255) (by decide +kernel))) rfl
theorem dX11_rowOf_9 : decode cX11_rowOf 9 = .ok (.if_icmp .lt 14, 3) := by decide +kernel
theorem z_inc (i : Nat) : nI i + Int32.ofInt 1 = nI (i + 1) := by rw [show Int32.ofInt 1 = 1 from by decide]; exact nI_1 i
theorem z_clt {N i : Nat} {M : Int32} (hM : M = nI N) (hN : i < 2 ^ 31) (h : ¬ M ≤ nI i) : i < N := by
  rcases Nat.lt_or_ge i N with q | q
  · exact q
  · exact absurd (by rw [hM]; exact nI_le q hN) h
theorem z_cge {N i : Nat} {M : Int32} (hM : M = nI N) (hN : N < 2 ^ 31) (hi : i ≤ N) (h : M ≤ nI i) : i = N := by
  rcases Nat.lt_or_ge i N with q | q
  · exact absurd (by rw [hM] at h; exact h) (nI_ge q hN)
  · omega
theorem z_in {y : Int32} {N : Nat} {M : Int32} (hM : M.toInt = (N : Int)) (h1 : ¬ y < 0) (h2 : ¬ M ≤ y) : vp_in y N := by
  rw [vp_in_iff]
  have a1 := Int32.le_iff_toInt_le.mp (Int32.not_lt.mp h1)
  have a2 := Int32.lt_iff_toInt_lt.mp (Int32.not_le.mp h2)
  rw [hM] at a2
  exact ⟨by simpa using a1, a2⟩
set_option maxHeartbeats 4000000 in
set_option maxRecDepth 100000 in
/-- isStanding(y) of a fresh book: false -/
theorem c_isStanding0 (l : Launch) (D : va_G) (dA : Nat → ClassId) (dZ : Nat → Nat) (sz : Nat) (bk : Nat) (xl : Nat) (b1 : Nat) (b2 : Nat) (b3 : Nat) (b4 : Nat) (hd : Int32) (vr : Int32) (y : Int32) : Met l yX1_isStanding (wz yX1_isStanding cX1_isStanding 2 (some .boolean)) ({ frames := 0, cells := 0, slots := 0, locals := 0 } : Room) (va_Pc [.ref bk, .int y] (zP D dA dZ [(bk, .inr (5, [.int hd, .ref xl, .ref b1, .ref b2, .ref b3, .ref b4, .int 0, .int 0, .int vr])), (b3, .inl (dA 1, 250, .inl (fun _ => 0)))] sz)) (va_Qi (fun (r : Int32) (_ : Unit) => r = 0) (fun _ => zB D (va_A [(bk, .inr (5, [.int hd, .ref xl, .ref b1, .ref b2, .ref b3, .ref b4, .int 0, .int 0, .int vr])), (b3, .inl (dA 1, 250, .inl (fun _ => 0)))] sz) [(bk, .inr (5, [.int hd, .ref xl, .ref b1, .ref b2, .ref b3, .ref b4, .int 0, .int 0, .int vr])), (b3, .inl (dA 1, 250, .inl (fun _ => 0)))]) (va_A [(bk, .inr (5, [.int hd, .ref xl, .ref b1, .ref b2, .ref b3, .ref b4, .int 0, .int 0, .int vr])), (b3, .inl (dA 1, 250, .inl (fun _ => 0)))] sz)) 0 0 (va_A [(bk, .inr (5, [.int hd, .ref xl, .ref b1, .ref b2, .ref b3, .ref b4, .int 0, .int 0, .int vr])), (b3, .inl (dA 1, 250, .inl (fun _ => 0)))] sz) := by
  refine Met.ofW (cc := cX1_isStanding) (maxL := 2) (ret := (some .boolean)) (by decide) rfl ?_
  intro p e s m args below meth c s₁ B hml hv
  obtain ⟨rfl, hsz, hP, hK, hD0, hT, hE⟩ := hv
  have hx := B.exec
  have hb := B.bytes
  have hr := B.returns
  have hw := wz_hw (atoms_spec (ws := wz yX1_isStanding cX1_isStanding 2 (some .boolean)) B.pre)
  have hown : s.vm.findClass "KindredBooks$Book" = some m.cls := findClass_of_methodNamed B.named
  have hlocks := B.notSynchronized
  have hn := hT.1.use (args := ([.ref bk, .int y] : List Value).toArray)
  subst hsz
  have hD := hD0.self (sz := s.heap.size)
  generalize hAe : va_A [(bk, .inr (5, [.int hd, .ref xl, .ref b1, .ref b2, .ref b3, .ref b4, .int 0, .int 0, .int vr])), (b3, .inl (dA 1, 250, .inl (fun _ => 0)))] s.heap.size = A at hD hE ⊢
  have hA : ∀ q : Nat, s.heap.size ≤ q → A q := fun q h => by rw [← hAe]; exact Or.inr h
  have hS : va_S A s.heap s.heap [] := va_S.rf
  replace hP : va_P D zcl [(bk, .inr (5, [.int hd, .ref xl, .ref b1, .ref b2, .ref b3, .ref b4, .int 0, .int 0, .int vr])), (b3, .inl (dA 1, 250, .inl (fun _ => 0)))] s.heap := hP
  have hl := lv_entry ([.ref bk, .int y]) (n := 2) (Nat.le_of_ble_eq_true rfl)
  rw [lg_entry_eq]
  generalize (lg_sl ([.ref bk, .int y]) ++ List.replicate (2 - (lg_sl ([.ref bk, .int y])).length) Slot.unset).toArray = ls at hl ⊢
  replace hl : lv_has ls 2 [(0, .ref bk), (1, .int y)] := hl
  refine lv_iload_n hx hb dX1_isStanding_0 rfl (lv_at hl 1 rfl) ?_
  refine lv_if_lt (tgt := 24) hx hb dX1_isStanding_1 (by decide) (fun c1 => ?_) (fun c1 => ?_)
  · refine lv_iconst (v := 0) hx hb dX1_isStanding_24 (by decide) ?_
    have hP9 := hP.sub (ws' := [(bk, .inr (5, [.int hd, .ref xl, .ref b1, .ref b2, .ref b3, .ref b4, .int 0, .int 0, .int vr])), (b3, .inl (dA 1, 250, .inl (fun _ => 0)))]) [0, 1] rfl
    have hD9 := hD.sub (ws' := [(bk, .inr (5, [.int hd, .ref xl, .ref b1, .ref b2, .ref b3, .ref b4, .int 0, .int 0, .int vr])), (b3, .inl (dA 1, 250, .inl (fun _ => 0)))]) [0, 1] (by decide) rfl
    exact W.zret (v := 0) hx hb hr rfl (fun t ht hW => ⟨⟨0, (), rfl, rfl, by rw [ht]; exact hP9, hD9⟩, hS.F ht⟩) hS.2.2 dX1_isStanding_25
  · refine lv_iload_n hx hb dX1_isStanding_4 rfl (lv_at hl 1 rfl) ?_
    refine lv_sipush (v := 250) hx hb dX1_isStanding_5 (by decide) ?_
    refine lv_icmp_ge (tgt := 24) hx hb dX1_isStanding_8 (by decide) (fun c2 => ?_) (fun c2 => ?_)
    · refine lv_iconst (v := 0) hx hb dX1_isStanding_24 (by decide) ?_
      have hP9 := hP.sub (ws' := [(bk, .inr (5, [.int hd, .ref xl, .ref b1, .ref b2, .ref b3, .ref b4, .int 0, .int 0, .int vr])), (b3, .inl (dA 1, 250, .inl (fun _ => 0)))]) [0, 1] rfl
      have hD9 := hD.sub (ws' := [(bk, .inr (5, [.int hd, .ref xl, .ref b1, .ref b2, .ref b3, .ref b4, .int 0, .int 0, .int vr])), (b3, .inl (dA 1, 250, .inl (fun _ => 0)))]) [0, 1] (by decide) rfl
      exact W.zret (v := 0) hx hb hr rfl (fun t ht hW => ⟨⟨0, (), rfl, rfl, by rw [ht]; exact hP9, hD9⟩, hS.F ht⟩) hS.2.2 dX1_isStanding_25
    · refine lv_aload_n hx hb dX1_isStanding_11 rfl (lv_at hl 0 rfl) ?_
      refine va_get (D := D) (ci := 5) (v := .ref b3) (C := "KindredBooks$Book") (T := T_zk5) (N := 9) hx hb hw in_zk5 hown hK hP 0 rfl rfl 4 (by decide) (hw _ mw_272) (fun _ h9 => h9) rfl dX1_isStanding_12 ?_
      refine lv_iload_n hx hb dX1_isStanding_15 rfl (lv_at hl 1 rfl) ?_
      refine va_zald hx hb hK hP 1 1 rfl rfl (z_in (by decide) c1 c2) dX1_isStanding_16 ?_
      refine lv_topi (fun v_1 ev_1 => ?_)
      obtain rfl : v_1 = 0 := ev_1.trans rfl
      refine lv_if_eq (tgt := 24) hx hb dX1_isStanding_17 (by decide) (fun _ => ?_) (fun zc => absurd (by decide) zc)
      refine lv_iconst (v := 0) hx hb dX1_isStanding_24 (by decide) ?_
      have hP9 := hP.sub (ws' := [(bk, .inr (5, [.int hd, .ref xl, .ref b1, .ref b2, .ref b3, .ref b4, .int 0, .int 0, .int vr])), (b3, .inl (dA 1, 250, .inl (fun _ => 0)))]) [0, 1] rfl
      have hD9 := hD.sub (ws' := [(bk, .inr (5, [.int hd, .ref xl, .ref b1, .ref b2, .ref b3, .ref b4, .int 0, .int 0, .int vr])), (b3, .inl (dA 1, 250, .inl (fun _ => 0)))]) [0, 1] (by decide) rfl
      exact W.zret (v := 0) hx hb hr rfl (fun t ht hW => ⟨⟨0, (), rfl, rfl, by rw [ht]; exact hP9, hD9⟩, hS.F ht⟩) hS.2.2 dX1_isStanding_25
set_option maxHeartbeats 4000000 in
set_option maxRecDepth 100000 in
/-- isCounting(y) of a fresh book: false -/
theorem c_isCounting0 (l : Launch) (D : va_G) (dA : Nat → ClassId) (dZ : Nat → Nat) (sz : Nat) (bk : Nat) (xl : Nat) (b1 : Nat) (b2 : Nat) (b3 : Nat) (b4 : Nat) (hd : Int32) (vr : Int32) (y : Int32) : Met l yX1_isCounting (wz yX1_isCounting cX1_isCounting 2 (some .boolean)) ({ frames := 0, cells := 0, slots := 0, locals := 0 } : Room) (va_Pc [.ref bk, .int y] (zP D dA dZ [(bk, .inr (5, [.int hd, .ref xl, .ref b1, .ref b2, .ref b3, .ref b4, .int 0, .int 0, .int vr])), (b2, .inl (dA 1, 250, .inl (fun _ => 0)))] sz)) (va_Qi (fun (r : Int32) (_ : Unit) => r = 0) (fun _ => zB D (va_A [(bk, .inr (5, [.int hd, .ref xl, .ref b1, .ref b2, .ref b3, .ref b4, .int 0, .int 0, .int vr])), (b2, .inl (dA 1, 250, .inl (fun _ => 0)))] sz) [(bk, .inr (5, [.int hd, .ref xl, .ref b1, .ref b2, .ref b3, .ref b4, .int 0, .int 0, .int vr])), (b2, .inl (dA 1, 250, .inl (fun _ => 0)))]) (va_A [(bk, .inr (5, [.int hd, .ref xl, .ref b1, .ref b2, .ref b3, .ref b4, .int 0, .int 0, .int vr])), (b2, .inl (dA 1, 250, .inl (fun _ => 0)))] sz)) 0 0 (va_A [(bk, .inr (5, [.int hd, .ref xl, .ref b1, .ref b2, .ref b3, .ref b4, .int 0, .int 0, .int vr])), (b2, .inl (dA 1, 250, .inl (fun _ => 0)))] sz) := by
  refine Met.ofW (cc := cX1_isCounting) (maxL := 2) (ret := (some .boolean)) (by decide) rfl ?_
  intro p e s m args below meth c s₁ B hml hv
  obtain ⟨rfl, hsz, hP, hK, hD0, hT, hE⟩ := hv
  have hx := B.exec
  have hb := B.bytes
  have hr := B.returns
  have hw := wz_hw (atoms_spec (ws := wz yX1_isCounting cX1_isCounting 2 (some .boolean)) B.pre)
  have hown : s.vm.findClass "KindredBooks$Book" = some m.cls := findClass_of_methodNamed B.named
  have hlocks := B.notSynchronized
  have hn := hT.1.use (args := ([.ref bk, .int y] : List Value).toArray)
  subst hsz
  have hD := hD0.self (sz := s.heap.size)
  generalize hAe : va_A [(bk, .inr (5, [.int hd, .ref xl, .ref b1, .ref b2, .ref b3, .ref b4, .int 0, .int 0, .int vr])), (b2, .inl (dA 1, 250, .inl (fun _ => 0)))] s.heap.size = A at hD hE ⊢
  have hA : ∀ q : Nat, s.heap.size ≤ q → A q := fun q h => by rw [← hAe]; exact Or.inr h
  have hS : va_S A s.heap s.heap [] := va_S.rf
  replace hP : va_P D zcl [(bk, .inr (5, [.int hd, .ref xl, .ref b1, .ref b2, .ref b3, .ref b4, .int 0, .int 0, .int vr])), (b2, .inl (dA 1, 250, .inl (fun _ => 0)))] s.heap := hP
  have hl := lv_entry ([.ref bk, .int y]) (n := 2) (Nat.le_of_ble_eq_true rfl)
  rw [lg_entry_eq]
  generalize (lg_sl ([.ref bk, .int y]) ++ List.replicate (2 - (lg_sl ([.ref bk, .int y])).length) Slot.unset).toArray = ls at hl ⊢
  replace hl : lv_has ls 2 [(0, .ref bk), (1, .int y)] := hl
  refine lv_iload_n hx hb dX1_isCounting_0 rfl (lv_at hl 1 rfl) ?_
  refine lv_if_lt (tgt := 24) hx hb dX1_isCounting_1 (by decide) (fun c1 => ?_) (fun c1 => ?_)
  · refine lv_iconst (v := 0) hx hb dX1_isCounting_24 (by decide) ?_
    have hP9 := hP.sub (ws' := [(bk, .inr (5, [.int hd, .ref xl, .ref b1, .ref b2, .ref b3, .ref b4, .int 0, .int 0, .int vr])), (b2, .inl (dA 1, 250, .inl (fun _ => 0)))]) [0, 1] rfl
    have hD9 := hD.sub (ws' := [(bk, .inr (5, [.int hd, .ref xl, .ref b1, .ref b2, .ref b3, .ref b4, .int 0, .int 0, .int vr])), (b2, .inl (dA 1, 250, .inl (fun _ => 0)))]) [0, 1] (by decide) rfl
    exact W.zret (v := 0) hx hb hr rfl (fun t ht hW => ⟨⟨0, (), rfl, rfl, by rw [ht]; exact hP9, hD9⟩, hS.F ht⟩) hS.2.2 dX1_isCounting_25
  · refine lv_iload_n hx hb dX1_isCounting_4 rfl (lv_at hl 1 rfl) ?_
    refine lv_sipush (v := 250) hx hb dX1_isCounting_5 (by decide) ?_
    refine lv_icmp_ge (tgt := 24) hx hb dX1_isCounting_8 (by decide) (fun c2 => ?_) (fun c2 => ?_)
    · refine lv_iconst (v := 0) hx hb dX1_isCounting_24 (by decide) ?_
      have hP9 := hP.sub (ws' := [(bk, .inr (5, [.int hd, .ref xl, .ref b1, .ref b2, .ref b3, .ref b4, .int 0, .int 0, .int vr])), (b2, .inl (dA 1, 250, .inl (fun _ => 0)))]) [0, 1] rfl
      have hD9 := hD.sub (ws' := [(bk, .inr (5, [.int hd, .ref xl, .ref b1, .ref b2, .ref b3, .ref b4, .int 0, .int 0, .int vr])), (b2, .inl (dA 1, 250, .inl (fun _ => 0)))]) [0, 1] (by decide) rfl
      exact W.zret (v := 0) hx hb hr rfl (fun t ht hW => ⟨⟨0, (), rfl, rfl, by rw [ht]; exact hP9, hD9⟩, hS.F ht⟩) hS.2.2 dX1_isCounting_25
    · refine lv_aload_n hx hb dX1_isCounting_11 rfl (lv_at hl 0 rfl) ?_
      refine va_get (D := D) (ci := 5) (v := .ref b2) (C := "KindredBooks$Book") (T := T_zk5) (N := 9) hx hb hw in_zk5 hown hK hP 0 rfl rfl 3 (by decide) (hw _ mw_271) (fun _ h9 => h9) rfl dX1_isCounting_12 ?_
      refine lv_iload_n hx hb dX1_isCounting_15 rfl (lv_at hl 1 rfl) ?_
      refine va_zald hx hb hK hP 1 1 rfl rfl (z_in (by decide) c1 c2) dX1_isCounting_16 ?_
      refine lv_topi (fun v_1 ev_1 => ?_)
      obtain rfl : v_1 = 0 := ev_1.trans rfl
      refine lv_if_eq (tgt := 24) hx hb dX1_isCounting_17 (by decide) (fun _ => ?_) (fun zc => absurd (by decide) zc)
      refine lv_iconst (v := 0) hx hb dX1_isCounting_24 (by decide) ?_
      have hP9 := hP.sub (ws' := [(bk, .inr (5, [.int hd, .ref xl, .ref b1, .ref b2, .ref b3, .ref b4, .int 0, .int 0, .int vr])), (b2, .inl (dA 1, 250, .inl (fun _ => 0)))]) [0, 1] rfl
      have hD9 := hD.sub (ws' := [(bk, .inr (5, [.int hd, .ref xl, .ref b1, .ref b2, .ref b3, .ref b4, .int 0, .int 0, .int vr])), (b2, .inl (dA 1, 250, .inl (fun _ => 0)))]) [0, 1] (by decide) rfl
      exact W.zret (v := 0) hx hb hr rfl (fun t ht hW => ⟨⟨0, (), rfl, rfl, by rw [ht]; exact hP9, hD9⟩, hS.F ht⟩) hS.2.2 dX1_isCounting_25
set_option maxHeartbeats 4000000 in
set_option maxRecDepth 100000 in
/-- isKnown(y) of a fresh book: false -/
theorem c_isKnown0 (l : Launch) (D : va_G) (dA : Nat → ClassId) (dZ : Nat → Nat) (sz : Nat) (bk : Nat) (xl : Nat) (b1 : Nat) (b2 : Nat) (b3 : Nat) (b4 : Nat) (hd : Int32) (vr : Int32) (y : Int32) : Met l yX1_isKnown (wz yX1_isKnown cX1_isKnown 2 (some .boolean)) ({ frames := 0, cells := 0, slots := 0, locals := 0 } : Room) (va_Pc [.ref bk, .int y] (zP D dA dZ [(bk, .inr (5, [.int hd, .ref xl, .ref b1, .ref b2, .ref b3, .ref b4, .int 0, .int 0, .int vr])), (b1, .inl (dA 1, 250, .inl (fun _ => 0)))] sz)) (va_Qi (fun (r : Int32) (_ : Unit) => r = 0) (fun _ => zB D (va_A [(bk, .inr (5, [.int hd, .ref xl, .ref b1, .ref b2, .ref b3, .ref b4, .int 0, .int 0, .int vr])), (b1, .inl (dA 1, 250, .inl (fun _ => 0)))] sz) [(bk, .inr (5, [.int hd, .ref xl, .ref b1, .ref b2, .ref b3, .ref b4, .int 0, .int 0, .int vr])), (b1, .inl (dA 1, 250, .inl (fun _ => 0)))]) (va_A [(bk, .inr (5, [.int hd, .ref xl, .ref b1, .ref b2, .ref b3, .ref b4, .int 0, .int 0, .int vr])), (b1, .inl (dA 1, 250, .inl (fun _ => 0)))] sz)) 0 0 (va_A [(bk, .inr (5, [.int hd, .ref xl, .ref b1, .ref b2, .ref b3, .ref b4, .int 0, .int 0, .int vr])), (b1, .inl (dA 1, 250, .inl (fun _ => 0)))] sz) := by
  refine Met.ofW (cc := cX1_isKnown) (maxL := 2) (ret := (some .boolean)) (by decide) rfl ?_
  intro p e s m args below meth c s₁ B hml hv
  obtain ⟨rfl, hsz, hP, hK, hD0, hT, hE⟩ := hv
  have hx := B.exec
  have hb := B.bytes
  have hr := B.returns
  have hw := wz_hw (atoms_spec (ws := wz yX1_isKnown cX1_isKnown 2 (some .boolean)) B.pre)
  have hown : s.vm.findClass "KindredBooks$Book" = some m.cls := findClass_of_methodNamed B.named
  have hlocks := B.notSynchronized
  have hn := hT.1.use (args := ([.ref bk, .int y] : List Value).toArray)
  subst hsz
  have hD := hD0.self (sz := s.heap.size)
  generalize hAe : va_A [(bk, .inr (5, [.int hd, .ref xl, .ref b1, .ref b2, .ref b3, .ref b4, .int 0, .int 0, .int vr])), (b1, .inl (dA 1, 250, .inl (fun _ => 0)))] s.heap.size = A at hD hE ⊢
  have hA : ∀ q : Nat, s.heap.size ≤ q → A q := fun q h => by rw [← hAe]; exact Or.inr h
  have hS : va_S A s.heap s.heap [] := va_S.rf
  replace hP : va_P D zcl [(bk, .inr (5, [.int hd, .ref xl, .ref b1, .ref b2, .ref b3, .ref b4, .int 0, .int 0, .int vr])), (b1, .inl (dA 1, 250, .inl (fun _ => 0)))] s.heap := hP
  have hl := lv_entry ([.ref bk, .int y]) (n := 2) (Nat.le_of_ble_eq_true rfl)
  rw [lg_entry_eq]
  generalize (lg_sl ([.ref bk, .int y]) ++ List.replicate (2 - (lg_sl ([.ref bk, .int y])).length) Slot.unset).toArray = ls at hl ⊢
  replace hl : lv_has ls 2 [(0, .ref bk), (1, .int y)] := hl
  refine lv_iload_n hx hb dX1_isKnown_0 rfl (lv_at hl 1 rfl) ?_
  refine lv_if_lt (tgt := 24) hx hb dX1_isKnown_1 (by decide) (fun c1 => ?_) (fun c1 => ?_)
  · refine lv_iconst (v := 0) hx hb dX1_isKnown_24 (by decide) ?_
    have hP9 := hP.sub (ws' := [(bk, .inr (5, [.int hd, .ref xl, .ref b1, .ref b2, .ref b3, .ref b4, .int 0, .int 0, .int vr])), (b1, .inl (dA 1, 250, .inl (fun _ => 0)))]) [0, 1] rfl
    have hD9 := hD.sub (ws' := [(bk, .inr (5, [.int hd, .ref xl, .ref b1, .ref b2, .ref b3, .ref b4, .int 0, .int 0, .int vr])), (b1, .inl (dA 1, 250, .inl (fun _ => 0)))]) [0, 1] (by decide) rfl
    exact W.zret (v := 0) hx hb hr rfl (fun t ht hW => ⟨⟨0, (), rfl, rfl, by rw [ht]; exact hP9, hD9⟩, hS.F ht⟩) hS.2.2 dX1_isKnown_25
  · refine lv_iload_n hx hb dX1_isKnown_4 rfl (lv_at hl 1 rfl) ?_
    refine lv_sipush (v := 250) hx hb dX1_isKnown_5 (by decide) ?_
    refine lv_icmp_ge (tgt := 24) hx hb dX1_isKnown_8 (by decide) (fun c2 => ?_) (fun c2 => ?_)
    · refine lv_iconst (v := 0) hx hb dX1_isKnown_24 (by decide) ?_
      have hP9 := hP.sub (ws' := [(bk, .inr (5, [.int hd, .ref xl, .ref b1, .ref b2, .ref b3, .ref b4, .int 0, .int 0, .int vr])), (b1, .inl (dA 1, 250, .inl (fun _ => 0)))]) [0, 1] rfl
      have hD9 := hD.sub (ws' := [(bk, .inr (5, [.int hd, .ref xl, .ref b1, .ref b2, .ref b3, .ref b4, .int 0, .int 0, .int vr])), (b1, .inl (dA 1, 250, .inl (fun _ => 0)))]) [0, 1] (by decide) rfl
      exact W.zret (v := 0) hx hb hr rfl (fun t ht hW => ⟨⟨0, (), rfl, rfl, by rw [ht]; exact hP9, hD9⟩, hS.F ht⟩) hS.2.2 dX1_isKnown_25
    · refine lv_aload_n hx hb dX1_isKnown_11 rfl (lv_at hl 0 rfl) ?_
      refine va_get (D := D) (ci := 5) (v := .ref b1) (C := "KindredBooks$Book") (T := T_zk5) (N := 9) hx hb hw in_zk5 hown hK hP 0 rfl rfl 2 (by decide) (hw _ mw_270) (fun _ h9 => h9) rfl dX1_isKnown_12 ?_
      refine lv_iload_n hx hb dX1_isKnown_15 rfl (lv_at hl 1 rfl) ?_
      refine va_zald hx hb hK hP 1 1 rfl rfl (z_in (by decide) c1 c2) dX1_isKnown_16 ?_
      refine lv_topi (fun v_1 ev_1 => ?_)
      obtain rfl : v_1 = 0 := ev_1.trans rfl
      refine lv_if_eq (tgt := 24) hx hb dX1_isKnown_17 (by decide) (fun _ => ?_) (fun zc => absurd (by decide) zc)
      refine lv_iconst (v := 0) hx hb dX1_isKnown_24 (by decide) ?_
      have hP9 := hP.sub (ws' := [(bk, .inr (5, [.int hd, .ref xl, .ref b1, .ref b2, .ref b3, .ref b4, .int 0, .int 0, .int vr])), (b1, .inl (dA 1, 250, .inl (fun _ => 0)))]) [0, 1] rfl
      have hD9 := hD.sub (ws' := [(bk, .inr (5, [.int hd, .ref xl, .ref b1, .ref b2, .ref b3, .ref b4, .int 0, .int 0, .int vr])), (b1, .inl (dA 1, 250, .inl (fun _ => 0)))]) [0, 1] (by decide) rfl
      exact W.zret (v := 0) hx hb hr rfl (fun t ht hW => ⟨⟨0, (), rfl, rfl, by rw [ht]; exact hP9, hD9⟩, hS.F ht⟩) hS.2.2 dX1_isKnown_25
set_option maxHeartbeats 4000000 in
set_option maxRecDepth 100000 in
/-- Ledger.at of an empty ledger: nothing -/
theorem c_Ledger_at0 (l : Launch) (D : va_G) (dA : Nat → ClassId) (dZ : Nat → Nat) (sz : Nat) (xl : Nat) (bl : Nat) (no : Nat) (ro : Nat) (y : Int32) : Met l yX6_at (wz yX6_at cX6_at 2 (some (.object "KindredBooks$Change"))) ({ frames := 0, cells := 0, slots := 0, locals := 0 } : Room) (va_Pc [.ref xl, .int y] (zP D dA dZ [(xl, .inr (2, [.ref bl, .ref no, .ref ro, .int 0]))] sz)) (va_Qq (fun (r : Option Nat) (_ : Unit) => r = (some no)) (fun _ => zB D (va_A [(xl, .inr (2, [.ref bl, .ref no, .ref ro, .int 0]))] sz) [(xl, .inr (2, [.ref bl, .ref no, .ref ro, .int 0]))]) (va_A [(xl, .inr (2, [.ref bl, .ref no, .ref ro, .int 0]))] sz)) 0 0 (va_A [(xl, .inr (2, [.ref bl, .ref no, .ref ro, .int 0]))] sz) := by
  refine Met.ofW (cc := cX6_at) (maxL := 2) (ret := (some (.object "KindredBooks$Change"))) (by decide) rfl ?_
  intro p e s m args below meth c s₁ B hml hv
  obtain ⟨rfl, hsz, hP, hK, hD0, hT, hE⟩ := hv
  have hx := B.exec
  have hb := B.bytes
  have hr := B.returns
  have hw := wz_hw (atoms_spec (ws := wz yX6_at cX6_at 2 (some (.object "KindredBooks$Change"))) B.pre)
  have hown : s.vm.findClass "KindredBooks$Ledger" = some m.cls := findClass_of_methodNamed B.named
  have hlocks := B.notSynchronized
  have hn := hT.1.use (args := ([.ref xl, .int y] : List Value).toArray)
  subst hsz
  have hD := hD0.self (sz := s.heap.size)
  generalize hAe : va_A [(xl, .inr (2, [.ref bl, .ref no, .ref ro, .int 0]))] s.heap.size = A at hD hE ⊢
  have hA : ∀ q : Nat, s.heap.size ≤ q → A q := fun q h => by rw [← hAe]; exact Or.inr h
  have hS : va_S A s.heap s.heap [] := va_S.rf
  replace hP : va_P D zcl [(xl, .inr (2, [.ref bl, .ref no, .ref ro, .int 0]))] s.heap := hP
  have hl := lv_entry ([.ref xl, .int y]) (n := 2) (Nat.le_of_ble_eq_true rfl)
  rw [lg_entry_eq]
  generalize (lg_sl ([.ref xl, .int y]) ++ List.replicate (2 - (lg_sl ([.ref xl, .int y])).length) Slot.unset).toArray = ls at hl ⊢
  replace hl : lv_has ls 2 [(0, .ref xl), (1, .int y)] := hl
  refine lv_iload_n hx hb dX6_at_0 rfl (lv_at hl 1 rfl) ?_
  refine lv_if_lt (tgt := 21) hx hb dX6_at_1 (by decide) (fun c1 => ?_) (fun c1 => ?_)
  · refine lv_aload_n hx hb dX6_at_21 rfl (lv_at hl 0 rfl) ?_
    refine va_get (D := D) (ci := 2) (v := .ref no) (C := "KindredBooks$Ledger") (T := T_zk2) (N := 4) hx hb hw in_zk2 hown hK hP 0 rfl rfl 1 (by decide) (hw _ mw_165) (fun _ h9 => h9) rfl dX6_at_22 ?_
    have hP9 := hP.sub (ws' := [(xl, .inr (2, [.ref bl, .ref no, .ref ro, .int 0]))]) [0] rfl
    have hD9 := hD.sub (ws' := [(xl, .inr (2, [.ref bl, .ref no, .ref ro, .int 0]))]) [0] (by decide) rfl
    exact W.aret (v := .ref no) hx hb hr (Or.inl ⟨_, rfl⟩) (Or.inr ⟨_, rfl⟩) (fun t ht hW => ⟨⟨(some no), (), rfl, rfl, by rw [ht]; exact hP9, hD9⟩, hS.F ht⟩) hS.2.2 dX6_at_25
  · refine lv_iload_n hx hb dX6_at_4 rfl (lv_at hl 1 rfl) ?_
    refine lv_aload_n hx hb dX6_at_5 rfl (lv_at hl 0 rfl) ?_
    refine va_get (D := D) (ci := 2) (v := .int 0) (C := "KindredBooks$Ledger") (T := T_zk2) (N := 4) hx hb hw in_zk2 hown hK hP 0 rfl rfl 3 (by decide) (hw _ mw_168) (fun _ h9 => h9) rfl dX6_at_6 ?_
    refine lv_icmp_ge (tgt := 21) hx hb dX6_at_9 (by decide) (fun _ => ?_) (fun zc => absurd (Int32.not_lt.mp c1) zc)
    refine lv_aload_n hx hb dX6_at_21 rfl (lv_at hl 0 rfl) ?_
    refine va_get (D := D) (ci := 2) (v := .ref no) (C := "KindredBooks$Ledger") (T := T_zk2) (N := 4) hx hb hw in_zk2 hown hK hP 0 rfl rfl 1 (by decide) (hw _ mw_165) (fun _ h9 => h9) rfl dX6_at_22 ?_
    have hP9 := hP.sub (ws' := [(xl, .inr (2, [.ref bl, .ref no, .ref ro, .int 0]))]) [0] rfl
    have hD9 := hD.sub (ws' := [(xl, .inr (2, [.ref bl, .ref no, .ref ro, .int 0]))]) [0] (by decide) rfl
    exact W.aret (v := .ref no) hx hb hr (Or.inl ⟨_, rfl⟩) (Or.inr ⟨_, rfl⟩) (fun t ht hW => ⟨⟨(some no), (), rfl, rfl, by rw [ht]; exact hP9, hD9⟩, hS.F ht⟩) hS.2.2 dX6_at_25
set_option maxHeartbeats 4000000 in
set_option maxRecDepth 100000 in
/-- isLive(y) of a fresh book: false -/
theorem c_isLive0 (l : Launch) (D : va_G) (dA : Nat → ClassId) (dZ : Nat → Nat) (sz : Nat) (bk : Nat) (xl : Nat) (b1 : Nat) (b2 : Nat) (b3 : Nat) (b4 : Nat) (hd : Int32) (vr : Int32) (y : Int32) : Met l yX1_isLive (wz yX1_isLive cX1_isLive 2 (some .boolean)) ({ frames := 1, cells := 0, slots := 0, locals := 30 } : Room) (va_Pc [.ref bk, .int y] (zP D dA dZ [(bk, .inr (5, [.int hd, .ref xl, .ref b1, .ref b2, .ref b3, .ref b4, .int 0, .int 0, .int vr])), (b3, .inl (dA 1, 250, .inl (fun _ => 0)))] sz)) (va_Qi (fun (r : Int32) (_ : Unit) => r = 0) (fun _ => zB D (va_A [(bk, .inr (5, [.int hd, .ref xl, .ref b1, .ref b2, .ref b3, .ref b4, .int 0, .int 0, .int vr])), (b3, .inl (dA 1, 250, .inl (fun _ => 0)))] sz) [(bk, .inr (5, [.int hd, .ref xl, .ref b1, .ref b2, .ref b3, .ref b4, .int 0, .int 0, .int vr])), (b3, .inl (dA 1, 250, .inl (fun _ => 0)))]) (va_A [(bk, .inr (5, [.int hd, .ref xl, .ref b1, .ref b2, .ref b3, .ref b4, .int 0, .int 0, .int vr])), (b3, .inl (dA 1, 250, .inl (fun _ => 0)))] sz)) 0 0 (va_A [(bk, .inr (5, [.int hd, .ref xl, .ref b1, .ref b2, .ref b3, .ref b4, .int 0, .int 0, .int vr])), (b3, .inl (dA 1, 250, .inl (fun _ => 0)))] sz) := by
  refine Met.ofW (cc := cX1_isLive) (maxL := 2) (ret := (some .boolean)) (by decide) rfl ?_
  intro p e s m args below meth c s₁ B hml hv
  obtain ⟨rfl, hsz, hP, hK, hD0, hT, hE⟩ := hv
  have hx := B.exec
  have hb := B.bytes
  have hr := B.returns
  have hw := wz_hw (atoms_spec (ws := wz yX1_isLive cX1_isLive 2 (some .boolean)) B.pre)
  have hown : s.vm.findClass "KindredBooks$Book" = some m.cls := findClass_of_methodNamed B.named
  have hlocks := B.notSynchronized
  have hn := hT.1.use (args := ([.ref bk, .int y] : List Value).toArray)
  subst hsz
  have hD := hD0.self (sz := s.heap.size)
  generalize hAe : va_A [(bk, .inr (5, [.int hd, .ref xl, .ref b1, .ref b2, .ref b3, .ref b4, .int 0, .int 0, .int vr])), (b3, .inl (dA 1, 250, .inl (fun _ => 0)))] s.heap.size = A at hD hE ⊢
  have hA : ∀ q : Nat, s.heap.size ≤ q → A q := fun q h => by rw [← hAe]; exact Or.inr h
  have hS : va_S A s.heap s.heap [] := va_S.rf
  replace hP : va_P D zcl [(bk, .inr (5, [.int hd, .ref xl, .ref b1, .ref b2, .ref b3, .ref b4, .int 0, .int 0, .int vr])), (b3, .inl (dA 1, 250, .inl (fun _ => 0)))] s.heap := hP
  have hl := lv_entry ([.ref bk, .int y]) (n := 2) (Nat.le_of_ble_eq_true rfl)
  rw [lg_entry_eq]
  generalize (lg_sl ([.ref bk, .int y]) ++ List.replicate (2 - (lg_sl ([.ref bk, .int y])).length) Slot.unset).toArray = ls at hl ⊢
  replace hl : lv_has ls 2 [(0, .ref bk), (1, .int y)] := hl
  refine lv_aload_n hx hb dX1_isLive_0 rfl (lv_at hl 0 rfl) ?_
  refine lv_iload_n hx hb dX1_isLive_1 rfl (lv_at hl 1 rfl) ?_
  have hPc := hP.sub (ws' := [(bk, .inr (5, [.int hd, .ref xl, .ref b1, .ref b2, .ref b3, .ref b4, .int 0, .int 0, .int vr])), (b3, .inl (dA 1, 250, .inl (fun _ => 0)))]) [0, 1] rfl
  have hDc := hD.sub (ws' := [(bk, .inr (5, [.int hd, .ref xl, .ref b1, .ref b2, .ref b3, .ref b4, .int 0, .int 0, .int vr])), (b3, .inl (dA 1, 250, .inl (fun _ => 0)))]) [0, 1] (by decide) rfl
  have hFc := va_free (wc := [(bk, .inr (5, [.int hd, .ref xl, .ref b1, .ref b2, .ref b3, .ref b4, .int 0, .int 0, .int vr])), (b3, .inl (dA 1, 250, .inl (fun _ => 0)))]) hD hS hA [0, 1] rfl
  refine va_calli (va_runV (As := [.int y]) (rest := []) ⟨hx, hb, hml, hown, hw⟩ (c_isStanding0 l D dA dZ _ bk xl b1 b2 b3 b4 hd vr y) (z_cwV 1 hw mw_677 mw_678 mw_679 mw_9 mw_680 rfl rfl (by decide +kernel) ⟨Nat.le_of_ble_eq_true rfl, Nat.le_of_ble_eq_true rfl⟩) (zPreV hPc hK hDc hT hE hS hFc (va_recv hK hP (ci := 5) (q0 := 0) rfl rfl)) rfl rfl hl.1 rfl (lv_room (Nat.le_of_ble_eq_true rfl)) dX1_isLive_2 ⟨Nat.le_of_ble_eq_true rfl, Nat.le_of_ble_eq_true rfl⟩) hS (fun q _ h => hFc q h) hFc (fun r_1 u t H1 locs ht hvm hpo hB hz1 hk1 hS => ?_)
  obtain ⟨hP1, hD1⟩ := hB
  rw [ht] at hP1
  obtain ⟨hP, hD⟩ := va_join (wr := []) (w1 := [(bk, .inr (5, [.int hd, .ref xl, .ref b1, .ref b2, .ref b3, .ref b4, .int 0, .int 0, .int vr])), (b3, .inl (dA 1, 250, .inl (fun _ => 0)))]) hP hD [0, 1] [] rfl rfl (by decide) (by decide) hk1 hFc hP1 hD1
  generalize H1 = H at hP hS ⊢
  have hP : va_P D zcl [(bk, .inr (5, [.int hd, .ref xl, .ref b1, .ref b2, .ref b3, .ref b4, .int 0, .int 0, .int vr])), (b3, .inl (dA 1, 250, .inl (fun _ => 0)))] H := hP
  have hD : va_D A [(bk, .inr (5, [.int hd, .ref xl, .ref b1, .ref b2, .ref b3, .ref b4, .int 0, .int 0, .int vr])), (b3, .inl (dA 1, 250, .inl (fun _ => 0)))] := hD
  obtain rfl : r_1 = 0 := hpo
  refine lv_if_eq (tgt := 26) hx hb dX1_isLive_5 (by decide) (fun _ => ?_) (fun zc => absurd (by decide) zc)
  refine lv_iconst (v := 0) hx hb dX1_isLive_26 (by decide) ?_
  have hP9 := hP.sub (ws' := [(bk, .inr (5, [.int hd, .ref xl, .ref b1, .ref b2, .ref b3, .ref b4, .int 0, .int 0, .int vr])), (b3, .inl (dA 1, 250, .inl (fun _ => 0)))]) [0, 1] rfl
  have hD9 := hD.sub (ws' := [(bk, .inr (5, [.int hd, .ref xl, .ref b1, .ref b2, .ref b3, .ref b4, .int 0, .int 0, .int vr])), (b3, .inl (dA 1, 250, .inl (fun _ => 0)))]) [0, 1] (by decide) rfl
  exact W.zret (v := 0) hx hb hr rfl (fun t ht hW => ⟨⟨0, (), rfl, rfl, by rw [ht]; exact hP9, hD9⟩, hS.F ht⟩) hS.2.2 dX1_isLive_27
set_option maxHeartbeats 4000000 in
set_option maxRecDepth 100000 in
/-- checkLive: none lives in a fresh book -/
theorem c_checkLive_no (l : Launch) (D : va_G) (dA : Nat → ClassId) (dZ : Nat → Nat) (sz : Nat) (hfl : l.stackTraces = false) (ax : Nat) (bk : Nat) (xl : Nat) (b1 : Nat) (b2 : Nat) (b3 : Nat) (b4 : Nat) (hd : Int32) (vr : Int32) (y : Int32) : vx_Met l yX11_checkLive (wz yX11_checkLive cX11_checkLive 3 none) ({ frames := 6, cells := 1, slots := 6, locals := 100 } : Room) (va_Pc [.ref ax, .ref bk, .int y] (zP D dA dZ [(bk, .inr (5, [.int hd, .ref xl, .ref b1, .ref b2, .ref b3, .ref b4, .int 0, .int 0, .int vr])), (b3, .inl (dA 1, 250, .inl (fun _ => 0)))] sz)) zNo (zX "java/util/NoSuchElementException" (va_A [(bk, .inr (5, [.int hd, .ref xl, .ref b1, .ref b2, .ref b3, .ref b4, .int 0, .int 0, .int vr])), (b3, .inl (dA 1, 250, .inl (fun _ => 0)))] sz)) 1 6 (va_A [(bk, .inr (5, [.int hd, .ref xl, .ref b1, .ref b2, .ref b3, .ref b4, .int 0, .int 0, .int vr])), (b3, .inl (dA 1, 250, .inl (fun _ => 0)))] sz) := by
  refine vx_ofW (cc := cX11_checkLive) (maxL := 3) (ret := none) (by decide) rfl ?_
  intro p e s m args below meth c s₁ B hml hno hv
  obtain ⟨rfl, hsz, hP, hK, hD0, hT, hE⟩ := hv
  have hx := B.exec
  have hb := B.bytes
  have hr := B.returns
  have hw := wz_hw (atoms_spec (ws := wz yX11_checkLive cX11_checkLive 3 none) B.pre)
  have hown : s.vm.findClass "KindredBooks" = some m.cls := findClass_of_methodNamed B.named
  have hlocks := B.notSynchronized
  have hn := hT.1.use (args := ([.ref ax, .ref bk, .int y] : List Value).toArray)
  subst hsz
  have hD := hD0.self (sz := s.heap.size)
  generalize hAe : va_A [(bk, .inr (5, [.int hd, .ref xl, .ref b1, .ref b2, .ref b3, .ref b4, .int 0, .int 0, .int vr])), (b3, .inl (dA 1, 250, .inl (fun _ => 0)))] s.heap.size = A at hD hE ⊢
  have hA : ∀ q : Nat, s.heap.size ≤ q → A q := fun q h => by rw [← hAe]; exact Or.inr h
  have hS : va_S A s.heap s.heap [] := va_S.rf
  replace hP : va_P D zcl [(bk, .inr (5, [.int hd, .ref xl, .ref b1, .ref b2, .ref b3, .ref b4, .int 0, .int 0, .int vr])), (b3, .inl (dA 1, 250, .inl (fun _ => 0)))] s.heap := hP
  have hl := lv_entry ([.ref ax, .ref bk, .int y]) (n := 3) (Nat.le_of_ble_eq_true rfl)
  rw [lg_entry_eq]
  generalize (lg_sl ([.ref ax, .ref bk, .int y]) ++ List.replicate (3 - (lg_sl ([.ref ax, .ref bk, .int y])).length) Slot.unset).toArray = ls at hl ⊢
  replace hl : lv_has ls 3 [(0, .ref ax), (1, .ref bk), (2, .int y)] := hl
  refine lv_aload_n hx hb dX11_checkLive_0 rfl (lv_at hl 1 rfl) ?_
  refine lv_iload_n hx hb dX11_checkLive_1 rfl (lv_at hl 2 rfl) ?_
  have hPc := hP.sub (ws' := [(bk, .inr (5, [.int hd, .ref xl, .ref b1, .ref b2, .ref b3, .ref b4, .int 0, .int 0, .int vr])), (b3, .inl (dA 1, 250, .inl (fun _ => 0)))]) [0, 1] rfl
  have hDc := hD.sub (ws' := [(bk, .inr (5, [.int hd, .ref xl, .ref b1, .ref b2, .ref b3, .ref b4, .int 0, .int 0, .int vr])), (b3, .inl (dA 1, 250, .inl (fun _ => 0)))]) [0, 1] (by decide) rfl
  have hFc := va_free (wc := [(bk, .inr (5, [.int hd, .ref xl, .ref b1, .ref b2, .ref b3, .ref b4, .int 0, .int 0, .int vr])), (b3, .inl (dA 1, 250, .inl (fun _ => 0)))]) hD hS hA [0, 1] rfl
  refine va_calli (va_runV (As := [.int y]) (rest := []) ⟨hx, hb, hml, hown, hw⟩ (c_isLive0 l D dA dZ _ bk xl b1 b2 b3 b4 hd vr y) (z_cwV 1 hw mw_699 mw_674 mw_675 mw_9 mw_676 rfl rfl (by decide +kernel) ⟨Nat.le_of_ble_eq_true rfl, Nat.le_of_ble_eq_true rfl⟩) (zPreV hPc hK hDc hT hE hS hFc (va_recv hK hP (ci := 5) (q0 := 0) rfl rfl)) rfl rfl hl.1 rfl (lv_room (Nat.le_of_ble_eq_true rfl)) dX11_checkLive_2 ⟨Nat.le_of_ble_eq_true rfl, Nat.le_of_ble_eq_true rfl⟩) hS (fun q _ h => hFc q h) hFc (fun r_1 u t H1 locs ht hvm hpo hB hz1 hk1 hS => ?_)
  obtain ⟨hP1, hD1⟩ := hB
  rw [ht] at hP1
  obtain ⟨hP, hD⟩ := va_join (wr := []) (w1 := [(bk, .inr (5, [.int hd, .ref xl, .ref b1, .ref b2, .ref b3, .ref b4, .int 0, .int 0, .int vr])), (b3, .inl (dA 1, 250, .inl (fun _ => 0)))]) hP hD [0, 1] [] rfl rfl (by decide) (by decide) hk1 hFc hP1 hD1
  generalize H1 = H at hP hS ⊢
  have hP : va_P D zcl [(bk, .inr (5, [.int hd, .ref xl, .ref b1, .ref b2, .ref b3, .ref b4, .int 0, .int 0, .int vr])), (b3, .inl (dA 1, 250, .inl (fun _ => 0)))] H := hP
  have hD : va_D A [(bk, .inr (5, [.int hd, .ref xl, .ref b1, .ref b2, .ref b3, .ref b4, .int 0, .int 0, .int vr])), (b3, .inl (dA 1, 250, .inl (fun _ => 0)))] := hD
  obtain rfl : r_1 = 0 := hpo
  refine lv_if_ne (tgt := 19) hx hb dX11_checkLive_5 (by decide) (fun zc => absurd (by decide) zc) (fun _ => ?_)
  obtain ⟨sa, hsa⟩ := hT.2.1 ("KindredBooks", 409, "the entry is not live in this book") (by decide)
  exact zn_throwSW (own := "KindredBooks") (XC := zX "java/util/NoSuchElementException" A) hx hb hfl hown (hw _ mw_700) (hw _ mw_38) hsa (zn_ats hw hT.1 xat_KindredBooks_173_NoSuchElementException) xgd_KindredBooks_173_169 hE.2.2.2.2.2.1 hE.2.2.2.2.2.2 hS (hl.1.trans hml.symm) dX11_checkLive_8 dX11_checkLive_11 dX11_checkLive_12 dX11_checkLive_15 dX11_checkLive_18 (fun x hx => (hno x hx).elim) (Nat.le_of_ble_eq_true rfl) (Nat.le_of_ble_eq_true rfl) (Nat.le_of_ble_eq_true rfl) (Nat.le_of_ble_eq_true rfl) hlocks (fun t _ h1 h2 => zX_of hS h1 h2) hS.2.2 (Nat.le_of_ble_eq_true rfl) (Nat.le_of_ble_eq_true rfl)
set_option maxHeartbeats 4000000 in
set_option maxRecDepth 100000 in
/-- checkChange: there is none -/
theorem c_checkChange_no (l : Launch) (D : va_G) (dA : Nat → ClassId) (dZ : Nat → Nat) (sz : Nat) (hfl : l.stackTraces = false) (ax : Nat) (xt : Nat) (xp : Nat) (xs : Nat) (xl : Nat) (xb : Nat) (xk : Nat) (xm : Nat) (xq : Nat) (xg : Nat) (xf : Nat) (xe : Nat) (bl : Nat) (no : Nat) (ro : Nat) (y : Int32) : vx_Met l yX11_checkChange (wz yX11_checkChange cX11_checkChange 2 none) ({ frames := 6, cells := 1, slots := 6, locals := 100 } : Room) (va_Pc [.ref ax, .int y] (zP D dA dZ [(ax, .inr (0, [.ref xt, .ref xp, .ref xs, .ref xl, .ref xb, .ref xk, .ref xm, .ref xq, .ref xg, .ref xf, .ref xe, .int 49])), (xl, .inr (2, [.ref bl, .ref no, .ref ro, .int 0]))] sz)) zNo (zX "java/lang/IndexOutOfBoundsException" (va_A [(ax, .inr (0, [.ref xt, .ref xp, .ref xs, .ref xl, .ref xb, .ref xk, .ref xm, .ref xq, .ref xg, .ref xf, .ref xe, .int 49])), (xl, .inr (2, [.ref bl, .ref no, .ref ro, .int 0]))] sz)) 1 6 (va_A [(ax, .inr (0, [.ref xt, .ref xp, .ref xs, .ref xl, .ref xb, .ref xk, .ref xm, .ref xq, .ref xg, .ref xf, .ref xe, .int 49])), (xl, .inr (2, [.ref bl, .ref no, .ref ro, .int 0]))] sz) := by
  refine vx_ofW (cc := cX11_checkChange) (maxL := 2) (ret := none) (by decide) rfl ?_
  intro p e s m args below meth c s₁ B hml hno hv
  obtain ⟨rfl, hsz, hP, hK, hD0, hT, hE⟩ := hv
  have hx := B.exec
  have hb := B.bytes
  have hr := B.returns
  have hw := wz_hw (atoms_spec (ws := wz yX11_checkChange cX11_checkChange 2 none) B.pre)
  have hown : s.vm.findClass "KindredBooks" = some m.cls := findClass_of_methodNamed B.named
  have hlocks := B.notSynchronized
  have hn := hT.1.use (args := ([.ref ax, .int y] : List Value).toArray)
  subst hsz
  have hD := hD0.self (sz := s.heap.size)
  generalize hAe : va_A [(ax, .inr (0, [.ref xt, .ref xp, .ref xs, .ref xl, .ref xb, .ref xk, .ref xm, .ref xq, .ref xg, .ref xf, .ref xe, .int 49])), (xl, .inr (2, [.ref bl, .ref no, .ref ro, .int 0]))] s.heap.size = A at hD hE ⊢
  have hA : ∀ q : Nat, s.heap.size ≤ q → A q := fun q h => by rw [← hAe]; exact Or.inr h
  have hS : va_S A s.heap s.heap [] := va_S.rf
  replace hP : va_P D zcl [(ax, .inr (0, [.ref xt, .ref xp, .ref xs, .ref xl, .ref xb, .ref xk, .ref xm, .ref xq, .ref xg, .ref xf, .ref xe, .int 49])), (xl, .inr (2, [.ref bl, .ref no, .ref ro, .int 0]))] s.heap := hP
  have hl := lv_entry ([.ref ax, .int y]) (n := 2) (Nat.le_of_ble_eq_true rfl)
  rw [lg_entry_eq]
  generalize (lg_sl ([.ref ax, .int y]) ++ List.replicate (2 - (lg_sl ([.ref ax, .int y])).length) Slot.unset).toArray = ls at hl ⊢
  replace hl : lv_has ls 2 [(0, .ref ax), (1, .int y)] := hl
  refine lv_iload_n hx hb dX11_checkChange_0 rfl (lv_at hl 1 rfl) ?_
  refine lv_if_lt (tgt := 15) hx hb dX11_checkChange_1 (by decide) (fun c1 => ?_) (fun c1 => ?_)
  · obtain ⟨sa, hsa⟩ := hT.2.1 ("KindredBooks", 400, "there is no such change") (by decide)
    exact vx_throwSW (own := "KindredBooks") (cls := "java/lang/IndexOutOfBoundsException") (names := ["java/lang/RuntimeException", "java/lang/Exception"]) (XC := zX "java/lang/IndexOutOfBoundsException" A) hx hb hfl hown (by decide) (by decide) (hw _ mw_607) (hw _ mw_29) hsa (z_at hw hT.1 xat_KindredBooks_216_IndexOutOfBoundsException) xgd_KindredBooks_216_212 hE.2.2.2.2.2.1 hE.2.2.2.2.2.2 hS (hl.1.trans hml.symm) dX11_checkChange_15 dX11_checkChange_18 dX11_checkChange_19 dX11_checkChange_22 dX11_checkChange_25 (fun x hx => (hno x hx).elim) (Nat.le_of_ble_eq_true rfl) (Nat.le_of_ble_eq_true rfl) (Nat.le_of_ble_eq_true rfl) (Nat.le_of_ble_eq_true rfl) hlocks (fun t _ h1 h2 => zX_of hS h1 h2) hS.2.2 (Nat.le_of_ble_eq_true rfl) (Nat.le_of_ble_eq_true rfl)
  · refine lv_iload_n hx hb dX11_checkChange_4 rfl (lv_at hl 1 rfl) ?_
    refine lv_aload_n hx hb dX11_checkChange_5 rfl (lv_at hl 0 rfl) ?_
    refine va_get (D := D) (ci := 0) (v := .ref xl) (C := "KindredBooks") (T := T_zk0) (N := 12) hx hb hw in_zk0 hown hK hP 0 rfl rfl 3 (by decide) (hw _ mw_349) (fun _ h9 => h9) rfl dX11_checkChange_6 ?_
    refine va_getN (D := D) (ci := 2) (v := .int 0) (C := "KindredBooks$Ledger") (T := T_zk2) (N := 4) hx hb hw in_zk2 hown hK hP 1 rfl rfl 3 (by decide) (hn _ mn_170) (fun _ h9 => h9) rfl dX11_checkChange_9 ?_
    refine lv_icmp_lt (tgt := 26) hx hb dX11_checkChange_12 (by decide) (fun zc => absurd zc (Int32.not_lt.mpr (Int32.not_lt.mp c1))) (fun _ => ?_)
    obtain ⟨sa, hsa⟩ := hT.2.1 ("KindredBooks", 400, "there is no such change") (by decide)
    exact vx_throwSW (own := "KindredBooks") (cls := "java/lang/IndexOutOfBoundsException") (names := ["java/lang/RuntimeException", "java/lang/Exception"]) (XC := zX "java/lang/IndexOutOfBoundsException" A) hx hb hfl hown (by decide) (by decide) (hw _ mw_607) (hw _ mw_29) hsa (z_at hw hT.1 xat_KindredBooks_216_IndexOutOfBoundsException) xgd_KindredBooks_216_212 hE.2.2.2.2.2.1 hE.2.2.2.2.2.2 hS (hl.1.trans hml.symm) dX11_checkChange_15 dX11_checkChange_18 dX11_checkChange_19 dX11_checkChange_22 dX11_checkChange_25 (fun x hx => (hno x hx).elim) (Nat.le_of_ble_eq_true rfl) (Nat.le_of_ble_eq_true rfl) (Nat.le_of_ble_eq_true rfl) (Nat.le_of_ble_eq_true rfl) hlocks (fun t _ h1 h2 => zX_of hS h1 h2) hS.2.2 (Nat.le_of_ble_eq_true rfl) (Nat.le_of_ble_eq_true rfl)
set_option maxHeartbeats 4000000 in
set_option maxRecDepth 100000 in
/-- rowOf: no answers -/
theorem c_rowOf_no (l : Launch) (D : va_G) (dA : Nat → ClassId) (dZ : Nat → Nat) (sz : Nat) (hfl : l.stackTraces = false) (ax : Nat) (an : Nat) (rw_ : Nat) (y : Int32) : vx_Met l yX11_rowOf (wz yX11_rowOf cX11_rowOf 3 (some .long)) ({ frames := 6, cells := 1, slots := 6, locals := 100 } : Room) (va_Pc [.ref ax, .ref an, .int y] (zP D dA dZ [(an, .inr (9, [.ref rw_, .int 0]))] sz)) zNo (zX "java/lang/IndexOutOfBoundsException" (va_A [(an, .inr (9, [.ref rw_, .int 0]))] sz)) 1 6 (va_A [(an, .inr (9, [.ref rw_, .int 0]))] sz) := by
  refine vx_ofW (cc := cX11_rowOf) (maxL := 3) (ret := (some .long)) (by decide) rfl ?_
  intro p e s m args below meth c s₁ B hml hno hv
  obtain ⟨rfl, hsz, hP, hK, hD0, hT, hE⟩ := hv
  have hx := B.exec
  have hb := B.bytes
  have hr := B.returns
  have hw := wz_hw (atoms_spec (ws := wz yX11_rowOf cX11_rowOf 3 (some .long)) B.pre)
  have hown : s.vm.findClass "KindredBooks" = some m.cls := findClass_of_methodNamed B.named
  have hlocks := B.notSynchronized
  have hn := hT.1.use (args := ([.ref ax, .ref an, .int y] : List Value).toArray)
  subst hsz
  have hD := hD0.self (sz := s.heap.size)
  generalize hAe : va_A [(an, .inr (9, [.ref rw_, .int 0]))] s.heap.size = A at hD hE ⊢
  have hA : ∀ q : Nat, s.heap.size ≤ q → A q := fun q h => by rw [← hAe]; exact Or.inr h
  have hS : va_S A s.heap s.heap [] := va_S.rf
  replace hP : va_P D zcl [(an, .inr (9, [.ref rw_, .int 0]))] s.heap := hP
  have hl := lv_entry ([.ref ax, .ref an, .int y]) (n := 3) (Nat.le_of_ble_eq_true rfl)
  rw [lg_entry_eq]
  generalize (lg_sl ([.ref ax, .ref an, .int y]) ++ List.replicate (3 - (lg_sl ([.ref ax, .ref an, .int y])).length) Slot.unset).toArray = ls at hl ⊢
  replace hl : lv_has ls 3 [(0, .ref ax), (1, .ref an), (2, .int y)] := hl
  refine lv_iload_n hx hb dX11_rowOf_0 rfl (lv_at hl 2 rfl) ?_
  refine lv_if_lt (tgt := 12) hx hb dX11_rowOf_1 (by decide) (fun c1 => ?_) (fun c1 => ?_)
  · obtain ⟨sa, hsa⟩ := hT.2.1 ("KindredBooks", 411, "there is no such answer") (by decide)
    exact vx_throwSW (own := "KindredBooks") (cls := "java/lang/IndexOutOfBoundsException") (names := ["java/lang/RuntimeException", "java/lang/Exception"]) (XC := zX "java/lang/IndexOutOfBoundsException" A) hx hb hfl hown (by decide) (by decide) (hw _ mw_607) (hw _ mw_29) hsa (z_at hw hT.1 xat_KindredBooks_216_IndexOutOfBoundsException) xgd_KindredBooks_216_212 hE.2.2.2.2.2.1 hE.2.2.2.2.2.2 hS (hl.1.trans hml.symm) dX11_rowOf_12 dX11_rowOf_15 dX11_rowOf_16 dX11_rowOf_19 dX11_rowOf_22 (fun x hx => (hno x hx).elim) (Nat.le_of_ble_eq_true rfl) (Nat.le_of_ble_eq_true rfl) (Nat.le_of_ble_eq_true rfl) (Nat.le_of_ble_eq_true rfl) hlocks (fun t _ h1 h2 => zX_of hS h1 h2) hS.2.2 (Nat.le_of_ble_eq_true rfl) (Nat.le_of_ble_eq_true rfl)
  · refine lv_iload_n hx hb dX11_rowOf_4 rfl (lv_at hl 2 rfl) ?_
    refine lv_aload_n hx hb dX11_rowOf_5 rfl (lv_at hl 1 rfl) ?_
    refine va_getN (D := D) (ci := 9) (v := .int 0) (C := "KindredBooks$Answers") (T := T_zk9) (N := 2) hx hb hw in_zk9 hown hK hP 0 rfl rfl 1 (by decide) (hn _ mn_255) (fun _ h9 => h9) rfl dX11_rowOf_6 ?_
    refine lv_icmp_lt (tgt := 23) hx hb dX11_rowOf_9 (by decide) (fun zc => absurd zc (Int32.not_lt.mpr (Int32.not_lt.mp c1))) (fun _ => ?_)
    obtain ⟨sa, hsa⟩ := hT.2.1 ("KindredBooks", 411, "there is no such answer") (by decide)
    exact vx_throwSW (own := "KindredBooks") (cls := "java/lang/IndexOutOfBoundsException") (names := ["java/lang/RuntimeException", "java/lang/Exception"]) (XC := zX "java/lang/IndexOutOfBoundsException" A) hx hb hfl hown (by decide) (by decide) (hw _ mw_607) (hw _ mw_29) hsa (z_at hw hT.1 xat_KindredBooks_216_IndexOutOfBoundsException) xgd_KindredBooks_216_212 hE.2.2.2.2.2.1 hE.2.2.2.2.2.2 hS (hl.1.trans hml.symm) dX11_rowOf_12 dX11_rowOf_15 dX11_rowOf_16 dX11_rowOf_19 dX11_rowOf_22 (fun x hx => (hno x hx).elim) (Nat.le_of_ble_eq_true rfl) (Nat.le_of_ble_eq_true rfl) (Nat.le_of_ble_eq_true rfl) (Nat.le_of_ble_eq_true rfl) hlocks (fun t _ h1 h2 => zX_of hS h1 h2) hS.2.2 (Nat.le_of_ble_eq_true rfl) (Nat.le_of_ble_eq_true rfl)
end
section
abbrev cX5_joinEntries : ByteArray := prog_7_method_3_code
def yX5_joinEntries : MethodName := ⟨"KindredBooks$Kin", "joinEntries", "()V"⟩
theorem mw_874 : (Jvm.Cond.code ({ cls := "KindredBooks$Kin", name := "joinEntries", desc := "()V" } : Jvm.MethodName) prog_7_method_3_code (3 : Nat) (Option.none : Option Jvm.ClassFile.FieldType)) ∈ W0 := W0_of (List.mem_append_right _ (List.mem_of_getElem? (i := 874) (by decide +kernel))) rfl
theorem dX5_joinEntries_2 : decode cX5_joinEntries 2 = .ok (.iload_n 1, 1) := by decide +kernel
theorem dX5_joinEntries_3 : decode cX5_joinEntries 3 = .ok (.sipush 250, 3) := by decide +kernel
theorem dX5_joinEntries_6 : decode cX5_joinEntries 6 = .ok (.if_icmp .ge 38, 3) := by decide +kernel
theorem dX5_joinEntries_44 : decode cX5_joinEntries 44 = .ok (.iconst 0, 1) := by decide +kernel
theorem dX5_joinEntries_9 : decode cX5_joinEntries 9 = .ok (.aload_n 0, 1) := by decide +kernel
theorem dX5_joinEntries_10 : decode cX5_joinEntries 10 = .ok (.getfield 9, 3) := by decide +kernel
theorem mw_306 : (Jvm.Cond.fieldLink "KindredBooks$Kin" (9 : Nat) "KindredBooks$Kin" "group" "[I") ∈ W0 := W0_of (List.mem_append_right _ (List.mem_of_getElem? (i := 306) (by decide +kernel))) rfl
theorem dX5_joinEntries_13 : decode cX5_joinEntries 13 = .ok (.iload_n 1, 1) := by decide +kernel
theorem dX5_joinEntries_14 : decode cX5_joinEntries 14 = .ok (.aload_n 0, 1) := by decide +kernel
theorem dX5_joinEntries_15 : decode cX5_joinEntries 15 = .ok (.getfield 44, 3) := by decide +kernel
theorem mw_304 : (Jvm.Cond.fieldLink "KindredBooks$Kin" (44 : Nat) "KindredBooks$Kin" "book" "LKindredBooks$Book;") ∈ W0 := W0_of (List.mem_append_right _ (List.mem_of_getElem? (i := 304) (by decide +kernel))) rfl
theorem dX5_joinEntries_18 : decode cX5_joinEntries 18 = .ok (.iload_n 1, 1) := by decide +kernel
theorem dX5_joinEntries_19 : decode cX5_joinEntries 19 = .ok (.invokevirtual 77, 3) := by decide +kernel
theorem mw_875 : (Jvm.Cond.methodLink "KindredBooks$Kin" (77 : Nat) ({ cls := "KindredBooks$Book", name := "isLive", desc := "(I)Z" } : Jvm.MethodName)) ∈ W0 := W0_of (List.mem_append_right _ (List.mem_of_getElem? (i := 875) (by decide +kernel))) rfl
theorem dX5_joinEntries_22 : decode cX5_joinEntries 22 = .ok (.ifCond .eq 7, 3) := by decide +kernel
theorem dX5_joinEntries_29 : decode cX5_joinEntries 29 = .ok (.iconst (-1), 1) := by decide +kernel
theorem dX5_joinEntries_30 : decode cX5_joinEntries 30 = .ok (.iastore, 1) := by decide +kernel
theorem dX5_joinEntries_31 : decode cX5_joinEntries 31 = .ok (.aload_n 0, 1) := by decide +kernel
theorem dX5_joinEntries_32 : decode cX5_joinEntries 32 = .ok (.getfield 15, 3) := by decide +kernel
theorem mw_307 : (Jvm.Cond.fieldLink "KindredBooks$Kin" (15 : Nat) "KindredBooks$Kin" "holding" "[Z") ∈ W0 := W0_of (List.mem_append_right _ (List.mem_of_getElem? (i := 307) (by decide +kernel))) rfl
theorem dX5_joinEntries_35 : decode cX5_joinEntries 35 = .ok (.iload_n 1, 1) := by decide +kernel
theorem dX5_joinEntries_36 : decode cX5_joinEntries 36 = .ok (.iconst 0, 1) := by decide +kernel
theorem dX5_joinEntries_37 : decode cX5_joinEntries 37 = .ok (.bastore, 1) := by decide +kernel
theorem dX5_joinEntries_38 : decode cX5_joinEntries 38 = .ok (.iinc 1 1, 3) := by decide +kernel
theorem dX5_joinEntries_41 : decode cX5_joinEntries 41 = .ok (.goto (-39), 3) := by decide +kernel
theorem dX5_joinEntries_0 : decode cX5_joinEntries 0 = .ok (.iconst 0, 1) := by decide +kernel
theorem dX5_joinEntries_1 : decode cX5_joinEntries 1 = .ok (.istore_n 1, 1) := by decide +kernel
theorem dX5_joinEntries_45 : decode cX5_joinEntries 45 = .ok (.istore_n 1, 1) := by decide +kernel
theorem dX5_joinEntries_46 : decode cX5_joinEntries 46 = .ok (.iload_n 1, 1) := by decide +kernel
theorem dX5_joinEntries_47 : decode cX5_joinEntries 47 = .ok (.aload_n 0, 1) := by decide +kernel
theorem dX5_joinEntries_48 : decode cX5_joinEntries 48 = .ok (.getfield 44, 3) := by decide +kernel
theorem dX5_joinEntries_51 : decode cX5_joinEntries 51 = .ok (.getfield 81, 3) := by decide +kernel
theorem mn_274 : (Jvm.Cond.fieldLinkNest "KindredBooks$Kin" (81 : Nat) "KindredBooks$Book" "size" "I" "KindredBooks") ∈ N0 := N0_of (List.mem_append_right _ (List.mem_of_getElem? (i := 274) (by decide +kernel))) rfl
theorem dX5_joinEntries_54 : decode cX5_joinEntries 54 = .ok (.if_icmp .ge 45, 3) := by decide +kernel
theorem dX5_joinEntries_99 : decode cX5_joinEntries 99 = .ok (.return_, 1) := by decide +kernel
abbrev cX5_listGroups : ByteArray := prog_7_method_5_code
def yX5_listGroups : MethodName := ⟨"KindredBooks$Kin", "listGroups", "()V"⟩
theorem mw_898 : (Jvm.Cond.code ({ cls := "KindredBooks$Kin", name := "listGroups", desc := "()V" } : Jvm.MethodName) prog_7_method_5_code (2 : Nat) (Option.none : Option Jvm.ClassFile.FieldType)) ∈ W0 := W0_of (List.mem_append_right _ (List.mem_of_getElem? (i := 898) (by decide +kernel))) rfl
theorem dX5_listGroups_0 : decode cX5_listGroups 0 = .ok (.aload_n 0, 1) := by decide +kernel
theorem dX5_listGroups_1 : decode cX5_listGroups 1 = .ok (.iconst 0, 1) := by decide +kernel
theorem dX5_listGroups_2 : decode cX5_listGroups 2 = .ok (.putfield 66, 3) := by decide +kernel
theorem mw_309 : (Jvm.Cond.fieldLink "KindredBooks$Kin" (66 : Nat) "KindredBooks$Kin" "size" "I") ∈ W0 := W0_of (List.mem_append_right _ (List.mem_of_getElem? (i := 309) (by decide +kernel))) rfl
theorem dX5_listGroups_5 : decode cX5_listGroups 5 = .ok (.iconst 0, 1) := by decide +kernel
theorem dX5_listGroups_6 : decode cX5_listGroups 6 = .ok (.istore_n 1, 1) := by decide +kernel
theorem dX5_listGroups_7 : decode cX5_listGroups 7 = .ok (.iload_n 1, 1) := by decide +kernel
theorem dX5_listGroups_8 : decode cX5_listGroups 8 = .ok (.aload_n 0, 1) := by decide +kernel
theorem dX5_listGroups_9 : decode cX5_listGroups 9 = .ok (.getfield 48, 3) := by decide +kernel
theorem mw_305 : (Jvm.Cond.fieldLink "KindredBooks$Kin" (48 : Nat) "KindredBooks$Kin" "ledger" "LKindredBooks$Ledger;") ∈ W0 := W0_of (List.mem_append_right _ (List.mem_of_getElem? (i := 305) (by decide +kernel))) rfl
theorem dX5_listGroups_12 : decode cX5_listGroups 12 = .ok (.getfield 122, 3) := by decide +kernel
theorem mn_171 : (Jvm.Cond.fieldLinkNest "KindredBooks$Kin" (122 : Nat) "KindredBooks$Ledger" "size" "I" "KindredBooks") ∈ N0 := N0_of (List.mem_append_right _ (List.mem_of_getElem? (i := 171) (by decide +kernel))) rfl
theorem dX5_listGroups_15 : decode cX5_listGroups 15 = .ok (.if_icmp .ge 39, 3) := by decide +kernel
theorem dX5_listGroups_54 : decode cX5_listGroups 54 = .ok (.return_, 1) := by decide +kernel
abbrev cJ7_fill_53178 : ByteArray := prog_47_method_103_code
def yJ7_fill_53178 : MethodName := ⟨"java/util/Arrays", "fill", "([II)V"⟩
theorem mw_905 : (Jvm.Cond.code ({ cls := "java/util/Arrays", name := "fill", desc := "([II)V" } : Jvm.MethodName) prog_47_method_103_code (4 : Nat) (Option.none : Option Jvm.ClassFile.FieldType)) ∈ W0 := W0_of (List.mem_append_right _ (List.mem_of_getElem? (i := 905) (by decide +kernel))) rfl
theorem dJ7_fill_53178_5 : decode cJ7_fill_53178 5 = .ok (.iload_n 2, 1) := by decide +kernel
theorem dJ7_fill_53178_6 : decode cJ7_fill_53178 6 = .ok (.iload_n 3, 1) := by decide +kernel
theorem dJ7_fill_53178_7 : decode cJ7_fill_53178 7 = .ok (.if_icmp .ge 13, 3) := by decide +kernel
theorem dJ7_fill_53178_20 : decode cJ7_fill_53178 20 = .ok (.return_, 1) := by decide +kernel
theorem dJ7_fill_53178_10 : decode cJ7_fill_53178 10 = .ok (.aload_n 0, 1) := by decide +kernel
theorem dJ7_fill_53178_11 : decode cJ7_fill_53178 11 = .ok (.iload_n 2, 1) := by decide +kernel
theorem dJ7_fill_53178_12 : decode cJ7_fill_53178 12 = .ok (.iload_n 1, 1) := by decide +kernel
theorem dJ7_fill_53178_13 : decode cJ7_fill_53178 13 = .ok (.iastore, 1) := by decide +kernel
theorem dJ7_fill_53178_14 : decode cJ7_fill_53178 14 = .ok (.iinc 2 1, 3) := by decide +kernel
theorem dJ7_fill_53178_17 : decode cJ7_fill_53178 17 = .ok (.goto (-12), 3) := by decide +kernel
theorem dJ7_fill_53178_0 : decode cJ7_fill_53178 0 = .ok (.iconst 0, 1) := by decide +kernel
theorem dJ7_fill_53178_1 : decode cJ7_fill_53178 1 = .ok (.istore_n 2, 1) := by decide +kernel
theorem dJ7_fill_53178_2 : decode cJ7_fill_53178 2 = .ok (.aload_n 0, 1) := by decide +kernel
theorem dJ7_fill_53178_3 : decode cJ7_fill_53178 3 = .ok (.arraylength, 1) := by decide +kernel
theorem dJ7_fill_53178_4 : decode cJ7_fill_53178 4 = .ok (.istore_n 3, 1) := by decide +kernel
abbrev cX5_placeLines : ByteArray := prog_7_method_6_code
def yX5_placeLines : MethodName := ⟨"KindredBooks$Kin", "placeLines", "()V"⟩
theorem mw_902 : (Jvm.Cond.code ({ cls := "KindredBooks$Kin", name := "placeLines", desc := "()V" } : Jvm.MethodName) prog_7_method_6_code (4 : Nat) (Option.none : Option Jvm.ClassFile.FieldType)) ∈ W0 := W0_of (List.mem_append_right _ (List.mem_of_getElem? (i := 902) (by decide +kernel))) rfl
theorem dX5_placeLines_63 : decode cX5_placeLines 63 = .ok (.iload_n 1, 1) := by decide +kernel
theorem dX5_placeLines_64 : decode cX5_placeLines 64 = .ok (.aload_n 0, 1) := by decide +kernel
theorem dX5_placeLines_65 : decode cX5_placeLines 65 = .ok (.getfield 25, 3) := by decide +kernel
theorem mw_313 : (Jvm.Cond.fieldLink "KindredBooks$Kin" (25 : Nat) "KindredBooks$Kin" "starts" "[I") ∈ W0 := W0_of (List.mem_append_right _ (List.mem_of_getElem? (i := 313) (by decide +kernel))) rfl
theorem dX5_placeLines_68 : decode cX5_placeLines 68 = .ok (.arraylength, 1) := by decide +kernel
theorem dX5_placeLines_69 : decode cX5_placeLines 69 = .ok (.if_icmp .ge 26, 3) := by decide +kernel
theorem dX5_placeLines_95 : decode cX5_placeLines 95 = .ok (.aload_n 0, 1) := by decide +kernel
theorem dX5_placeLines_72 : decode cX5_placeLines 72 = .ok (.aload_n 0, 1) := by decide +kernel
theorem dX5_placeLines_73 : decode cX5_placeLines 73 = .ok (.getfield 25, 3) := by decide +kernel
theorem dX5_placeLines_76 : decode cX5_placeLines 76 = .ok (.iload_n 1, 1) := by decide +kernel
theorem dX5_placeLines_77 : decode cX5_placeLines 77 = .ok (.dup2, 1) := by decide +kernel
theorem dX5_placeLines_78 : decode cX5_placeLines 78 = .ok (.iaload, 1) := by decide +kernel
theorem dX5_placeLines_79 : decode cX5_placeLines 79 = .ok (.aload_n 0, 1) := by decide +kernel
theorem dX5_placeLines_80 : decode cX5_placeLines 80 = .ok (.getfield 25, 3) := by decide +kernel
theorem dX5_placeLines_83 : decode cX5_placeLines 83 = .ok (.iload_n 1, 1) := by decide +kernel
theorem dX5_placeLines_84 : decode cX5_placeLines 84 = .ok (.iconst 1, 1) := by decide +kernel
theorem dX5_placeLines_85 : decode cX5_placeLines 85 = .ok (.isub, 1) := by decide +kernel
theorem dX5_placeLines_86 : decode cX5_placeLines 86 = .ok (.iaload, 1) := by decide +kernel
theorem dX5_placeLines_87 : decode cX5_placeLines 87 = .ok (.iadd, 1) := by decide +kernel
theorem dX5_placeLines_88 : decode cX5_placeLines 88 = .ok (.iastore, 1) := by decide +kernel
theorem dX5_placeLines_89 : decode cX5_placeLines 89 = .ok (.iinc 1 1, 3) := by decide +kernel
theorem dX5_placeLines_92 : decode cX5_placeLines 92 = .ok (.goto (-29), 3) := by decide +kernel
theorem dX5_placeLines_0 : decode cX5_placeLines 0 = .ok (.aload_n 0, 1) := by decide +kernel
theorem dX5_placeLines_1 : decode cX5_placeLines 1 = .ok (.getfield 25, 3) := by decide +kernel
theorem dX5_placeLines_4 : decode cX5_placeLines 4 = .ok (.iconst 0, 1) := by decide +kernel
theorem dX5_placeLines_5 : decode cX5_placeLines 5 = .ok (.invokestatic 125, 3) := by decide +kernel
theorem mw_903 : (Jvm.Cond.methodLink "KindredBooks$Kin" (125 : Nat) ({ cls := "java/util/Arrays", name := "fill", desc := "([II)V" } : Jvm.MethodName)) ∈ W0 := W0_of (List.mem_append_right _ (List.mem_of_getElem? (i := 903) (by decide +kernel))) rfl
theorem mw_904 : (Jvm.Cond.static ({ cls := "java/util/Arrays", name := "fill", desc := "([II)V" } : Jvm.MethodName)) ∈ W0 := W0_of (List.mem_append_right _ (List.mem_of_getElem? (i := 904) (by decide +kernel))) rfl
theorem mw_25 : (Jvm.Cond.initialized "java/util/Arrays") ∈ W0 := W0_of (List.mem_append_right _ (List.mem_of_getElem? (i := 25) (by decide +kernel))) rfl
theorem dX5_placeLines_8 : decode cX5_placeLines 8 = .ok (.iconst 0, 1) := by decide +kernel
theorem dX5_placeLines_9 : decode cX5_placeLines 9 = .ok (.istore_n 1, 1) := by decide +kernel
theorem dX5_placeLines_10 : decode cX5_placeLines 10 = .ok (.iload_n 1, 1) := by decide +kernel
theorem dX5_placeLines_11 : decode cX5_placeLines 11 = .ok (.aload_n 0, 1) := by decide +kernel
theorem dX5_placeLines_12 : decode cX5_placeLines 12 = .ok (.getfield 48, 3) := by decide +kernel
theorem dX5_placeLines_15 : decode cX5_placeLines 15 = .ok (.getfield 122, 3) := by decide +kernel
theorem dX5_placeLines_18 : decode cX5_placeLines 18 = .ok (.if_icmp .ge 43, 3) := by decide +kernel
theorem dX5_placeLines_61 : decode cX5_placeLines 61 = .ok (.iconst 1, 1) := by decide +kernel
theorem dX5_placeLines_62 : decode cX5_placeLines 62 = .ok (.istore_n 1, 1) := by decide +kernel
theorem dX5_placeLines_96 : decode cX5_placeLines 96 = .ok (.getfield 44, 3) := by decide +kernel
theorem dX5_placeLines_99 : decode cX5_placeLines 99 = .ok (.getfield 81, 3) := by decide +kernel
theorem dX5_placeLines_102 : decode cX5_placeLines 102 = .ok (.iconst 1, 1) := by decide +kernel
theorem dX5_placeLines_103 : decode cX5_placeLines 103 = .ok (.isub, 1) := by decide +kernel
theorem dX5_placeLines_104 : decode cX5_placeLines 104 = .ok (.istore_n 1, 1) := by decide +kernel
theorem dX5_placeLines_105 : decode cX5_placeLines 105 = .ok (.iload_n 1, 1) := by decide +kernel
theorem dX5_placeLines_106 : decode cX5_placeLines 106 = .ok (.ifCond .lt 59, 3) := by decide +kernel
theorem dX5_placeLines_165 : decode cX5_placeLines 165 = .ok (.return_, 1) := by decide +kernel
set_option maxHeartbeats 4000000 in
set_option maxRecDepth 100000 in
/-- the clearing loop of joinEntries -/
theorem lp_joinEntries {p : Program} {l : Launch} {e : Env} {R : Room} {s : State} {m : MethodId} {args : Array Value} {below : List Frame} {meth : Method} {c : Code} {cells slots : Nat} {Q : State → Prop} {A : Nat → Prop} {D : va_G} {dA : Nat → ClassId} {dZ : Nat → Nat} (kn : Nat) (bk : Nat) (xl : Nat) (k1 : Nat) (k2 : Nat) (k3 : Nat) (k4 : Nat) (k5 : Nat) (k6 : Nat) (k7 : Nat) (k8 : Nat) (k9 : Nat) (b1 : Nat) (b2 : Nat) (b3 : Nat) (b4 : Nat) (hd : Int32) (vr : Int32) (fv : Int32) (sz0 : Int32) (hx : p.tables.exec = Jvm.exec) (hb : c.code = cX5_joinEntries) (hml : c.maxLocals = 3) (hown : s.vm.findClass "KindredBooks$Kin" = some m.cls) (hw : ∀ w ∈ W0, w.before args s = true) (hn : ∀ w ∈ N0, w.before args s = true) (hK : va_K D zcl (tz dA) s) (hT : zT s) (hE : zE dZ A s s.heap) (hA : ∀ q : Nat, s.heap.size ≤ q → A q) (hRf : 2 ≤ R.frames) (hRl : 60 ≤ R.locals) (hRc : cells ≤ R.cells) (hRs : slots ≤ R.slots)
    (kk : ∀ (g1 : Nat → Int32) (g2 : Nat → Int32), ∀ (H : Heap) (locs : List Loc), va_P D zcl [(kn, .inr (6, [.ref bk, .ref xl, .ref k1, .ref k2, .ref k3, .int sz0, .ref k4, .ref k5, .ref k6, .ref k7, .ref k8, .ref k9, .int fv])), (bk, .inr (5, [.int hd, .ref xl, .ref b1, .ref b2, .ref b3, .ref b4, .int 0, .int 0, .int vr])), (b3, .inl (dA 1, 250, .inl (fun _ => 0))), (k1, .inl (dA 0, 250, .inl g1)), (k2, .inl (dA 1, 250, .inl g2))] H → va_D A [(kn, .inr (6, [.ref bk, .ref xl, .ref k1, .ref k2, .ref k3, .int sz0, .ref k4, .ref k5, .ref k6, .ref k7, .ref k8, .ref k9, .int fv])), (bk, .inr (5, [.int hd, .ref xl, .ref b1, .ref b2, .ref b3, .ref b4, .int 0, .int 0, .int vr])), (b3, .inl (dA 1, 250, .inl (fun _ => 0))), (k1, .inl (dA 0, 250, .inl g1)), (k2, .inl (dA 1, 250, .inl g2))] → va_S A s.heap H locs → ∀ ls : Array Slot, lv_has ls 3 [(0, .ref kn)] → W p l e R s m args below meth c H locs cells slots Q (F0 m 44 ls [])) :
    ∀ (n i : Nat) (g1 : Nat → Int32) (g2 : Nat → Int32), 0 ≤ i → i ≤ 250 → 250 + 1 ≤ i + n → ∀ (H : Heap) (locs : List Loc), va_P D zcl [(kn, .inr (6, [.ref bk, .ref xl, .ref k1, .ref k2, .ref k3, .int sz0, .ref k4, .ref k5, .ref k6, .ref k7, .ref k8, .ref k9, .int fv])), (bk, .inr (5, [.int hd, .ref xl, .ref b1, .ref b2, .ref b3, .ref b4, .int 0, .int 0, .int vr])), (b3, .inl (dA 1, 250, .inl (fun _ => 0))), (k1, .inl (dA 0, 250, .inl g1)), (k2, .inl (dA 1, 250, .inl g2))] H → va_D A [(kn, .inr (6, [.ref bk, .ref xl, .ref k1, .ref k2, .ref k3, .int sz0, .ref k4, .ref k5, .ref k6, .ref k7, .ref k8, .ref k9, .int fv])), (bk, .inr (5, [.int hd, .ref xl, .ref b1, .ref b2, .ref b3, .ref b4, .int 0, .int 0, .int vr])), (b3, .inl (dA 1, 250, .inl (fun _ => 0))), (k1, .inl (dA 0, 250, .inl g1)), (k2, .inl (dA 1, 250, .inl g2))] → va_S A s.heap H locs → ∀ ls : Array Slot, lv_has ls 3 [(0, .ref kn), (1, .int (nI i))] → W p l e R s m args below meth c H locs cells slots Q (F0 m 2 ls []) := by
  intro n
  induction n with
  | zero =>
    intro i g1 g2 h0 h1 h2
    exact absurd h2 (by omega)
  | succ n ih =>
    intro i g1 g2 h0 h1 h2  H locs hP hD hS ls hl
    refine lv_iload_n hx hb dX5_joinEntries_2 rfl (lv_at hl 1 rfl) ?_
    refine lv_sipush (v := 250) hx hb dX5_joinEntries_3 (by decide) ?_
    refine lv_icmp_ge (tgt := 44) hx hb dX5_joinEntries_6 (by decide) (fun c1 => ?_) (fun c1 => ?_)
    · exact kk g1 g2  H locs (hP.sub [0, 1, 2, 3, 4] rfl) (hD.sub [0, 1, 2, 3, 4] (by decide) rfl) hS ls (lv_sub hl [0] rfl)
    · refine lv_aload_n hx hb dX5_joinEntries_9 rfl (lv_at hl 0 rfl) ?_
      refine va_get (D := D) (ci := 6) (v := .ref k1) (C := "KindredBooks$Kin") (T := T_zk6) (N := 13) hx hb hw in_zk6 hown hK hP 0 rfl rfl 2 (by decide) (hw _ mw_306) (fun _ h9 => h9) rfl dX5_joinEntries_10 ?_
      refine lv_iload_n hx hb dX5_joinEntries_13 rfl (lv_at hl 1 rfl) ?_
      refine lv_aload_n hx hb dX5_joinEntries_14 rfl (lv_at hl 0 rfl) ?_
      refine va_get (D := D) (ci := 6) (v := .ref bk) (C := "KindredBooks$Kin") (T := T_zk6) (N := 13) hx hb hw in_zk6 hown hK hP 0 rfl rfl 0 (by decide) (hw _ mw_304) (fun _ h9 => h9) rfl dX5_joinEntries_15 ?_
      refine lv_iload_n hx hb dX5_joinEntries_18 rfl (lv_at hl 1 rfl) ?_
      have hPc := hP.sub (ws' := [(bk, .inr (5, [.int hd, .ref xl, .ref b1, .ref b2, .ref b3, .ref b4, .int 0, .int 0, .int vr])), (b3, .inl (dA 1, 250, .inl (fun _ => 0)))]) [1, 2] rfl
      have hDc := hD.sub (ws' := [(bk, .inr (5, [.int hd, .ref xl, .ref b1, .ref b2, .ref b3, .ref b4, .int 0, .int 0, .int vr])), (b3, .inl (dA 1, 250, .inl (fun _ => 0)))]) [1, 2] (by decide) rfl
      have hFc := va_free (wc := [(bk, .inr (5, [.int hd, .ref xl, .ref b1, .ref b2, .ref b3, .ref b4, .int 0, .int 0, .int vr])), (b3, .inl (dA 1, 250, .inl (fun _ => 0)))]) hD hS hA [1, 2] rfl
      refine va_calli (va_runV (As := [.int (nI i)]) (rest := [.int (nI i), .ref k1]) ⟨hx, hb, hml, hown, hw⟩ (c_isLive0 l D dA dZ _ bk xl b1 b2 b3 b4 hd vr (nI i)) (z_cwV 1 hw mw_875 mw_674 mw_675 mw_9 mw_676 rfl rfl (by decide +kernel) ⟨Nat.le_trans (Nat.le_of_ble_eq_true rfl) hRf, Nat.le_trans (Nat.le_of_ble_eq_true rfl) hRl⟩) (zPreV hPc hK hDc hT hE hS hFc (va_recv hK hP (ci := 5) (q0 := 1) rfl rfl)) rfl rfl hl.1 rfl (lv_room (Nat.le_of_ble_eq_true rfl)) dX5_joinEntries_19 ⟨hRc, hRs⟩) hS (fun q _ h => hFc q h) hFc (fun r_1 u t H1 locs ht hvm hpo hB hz1 hk1 hS => ?_)
      obtain ⟨hP1, hD1⟩ := hB
      rw [ht] at hP1
      obtain ⟨hP, hD⟩ := va_join (wr := [(kn, .inr (6, [.ref bk, .ref xl, .ref k1, .ref k2, .ref k3, .int sz0, .ref k4, .ref k5, .ref k6, .ref k7, .ref k8, .ref k9, .int fv])), (k1, .inl (dA 0, 250, .inl g1)), (k2, .inl (dA 1, 250, .inl g2))]) (w1 := [(bk, .inr (5, [.int hd, .ref xl, .ref b1, .ref b2, .ref b3, .ref b4, .int 0, .int 0, .int vr])), (b3, .inl (dA 1, 250, .inl (fun _ => 0)))]) hP hD [1, 2] [0, 3, 4] rfl rfl (by decide) (by decide) hk1 hFc hP1 hD1
      generalize H1 = H at hP hS ⊢
      have hP : va_P D zcl [(kn, .inr (6, [.ref bk, .ref xl, .ref k1, .ref k2, .ref k3, .int sz0, .ref k4, .ref k5, .ref k6, .ref k7, .ref k8, .ref k9, .int fv])), (k1, .inl (dA 0, 250, .inl g1)), (k2, .inl (dA 1, 250, .inl g2)), (bk, .inr (5, [.int hd, .ref xl, .ref b1, .ref b2, .ref b3, .ref b4, .int 0, .int 0, .int vr])), (b3, .inl (dA 1, 250, .inl (fun _ => 0)))] H := hP
      have hD : va_D A [(kn, .inr (6, [.ref bk, .ref xl, .ref k1, .ref k2, .ref k3, .int sz0, .ref k4, .ref k5, .ref k6, .ref k7, .ref k8, .ref k9, .int fv])), (k1, .inl (dA 0, 250, .inl g1)), (k2, .inl (dA 1, 250, .inl g2)), (bk, .inr (5, [.int hd, .ref xl, .ref b1, .ref b2, .ref b3, .ref b4, .int 0, .int 0, .int vr])), (b3, .inl (dA 1, 250, .inl (fun _ => 0)))] := hD
      obtain rfl : r_1 = 0 := hpo
      refine lv_if_eq (tgt := 29) hx hb dX5_joinEntries_22 (by decide) (fun _ => ?_) (fun zc => absurd (by decide) zc)
      refine lv_iconst (v := (-1)) hx hb dX5_joinEntries_29 (by decide) ?_
      refine va_iast hx hb hK hP hD hS 1 0 rfl rfl (vp_in_nI (z_clt (N := 250) rfl (by omega) c1) (by omega)) dX5_joinEntries_30 (fun H locs hP hD hS => ?_)
      obtain ⟨g3, eg3⟩ : ∃ g, g = (upd g1 (nI i).toNatClampNeg (-1)) := ⟨_, rfl⟩
      rw [← eg3] at hP hD
      have hP : va_P D zcl [(kn, .inr (6, [.ref bk, .ref xl, .ref k1, .ref k2, .ref k3, .int sz0, .ref k4, .ref k5, .ref k6, .ref k7, .ref k8, .ref k9, .int fv])), (k1, .inl (dA 0, 250, .inl g3)), (k2, .inl (dA 1, 250, .inl g2)), (bk, .inr (5, [.int hd, .ref xl, .ref b1, .ref b2, .ref b3, .ref b4, .int 0, .int 0, .int vr])), (b3, .inl (dA 1, 250, .inl (fun _ => 0)))] H := hP
      have hD : va_D A [(kn, .inr (6, [.ref bk, .ref xl, .ref k1, .ref k2, .ref k3, .int sz0, .ref k4, .ref k5, .ref k6, .ref k7, .ref k8, .ref k9, .int fv])), (k1, .inl (dA 0, 250, .inl g3)), (k2, .inl (dA 1, 250, .inl g2)), (bk, .inr (5, [.int hd, .ref xl, .ref b1, .ref b2, .ref b3, .ref b4, .int 0, .int 0, .int vr])), (b3, .inl (dA 1, 250, .inl (fun _ => 0)))] := hD
      refine lv_aload_n hx hb dX5_joinEntries_31 rfl (lv_at hl 0 rfl) ?_
      refine va_get (D := D) (ci := 6) (v := .ref k2) (C := "KindredBooks$Kin") (T := T_zk6) (N := 13) hx hb hw in_zk6 hown hK hP 0 rfl rfl 3 (by decide) (hw _ mw_307) (fun _ h9 => h9) rfl dX5_joinEntries_32 ?_
      refine lv_iload_n hx hb dX5_joinEntries_35 rfl (lv_at hl 1 rfl) ?_
      refine lv_iconst (v := 0) hx hb dX5_joinEntries_36 (by decide) ?_
      refine va_zast hx hb hK hP hD hS 2 1 rfl rfl (vp_in_nI (z_clt (N := 250) rfl (by omega) c1) (by omega)) dX5_joinEntries_37 (fun H locs hP hD hS => ?_)
      obtain ⟨g4, eg4⟩ : ∃ g, g = (upd g2 (nI i).toNatClampNeg (vp_nar .boolean 0)) := ⟨_, rfl⟩
      rw [← eg4] at hP hD
      have hP : va_P D zcl [(kn, .inr (6, [.ref bk, .ref xl, .ref k1, .ref k2, .ref k3, .int sz0, .ref k4, .ref k5, .ref k6, .ref k7, .ref k8, .ref k9, .int fv])), (k1, .inl (dA 0, 250, .inl g3)), (k2, .inl (dA 1, 250, .inl g4)), (bk, .inr (5, [.int hd, .ref xl, .ref b1, .ref b2, .ref b3, .ref b4, .int 0, .int 0, .int vr])), (b3, .inl (dA 1, 250, .inl (fun _ => 0)))] H := hP
      have hD : va_D A [(kn, .inr (6, [.ref bk, .ref xl, .ref k1, .ref k2, .ref k3, .int sz0, .ref k4, .ref k5, .ref k6, .ref k7, .ref k8, .ref k9, .int fv])), (k1, .inl (dA 0, 250, .inl g3)), (k2, .inl (dA 1, 250, .inl g4)), (bk, .inr (5, [.int hd, .ref xl, .ref b1, .ref b2, .ref b3, .ref b4, .int 0, .int 0, .int vr])), (b3, .inl (dA 1, 250, .inl (fun _ => 0)))] := hD
      refine lv_iinc (v := (nI (i + 1))) (lv' := [(1, .int (nI (i + 1))), (0, .ref kn)]) hx hb dX5_joinEntries_38 hl (k := 1) rfl (z_inc i) (by decide) rfl (fun ls hl => ?_)
      refine lv_goto (tgt := 2) hx hb dX5_joinEntries_41 (by decide) ?_
      exact ih (i + 1) g3 g4 (by omega) (z_clt (N := 250) rfl (by omega) c1) (by omega)  H locs (hP.sub [0, 3, 4, 1, 2] rfl) (hD.sub [0, 3, 4, 1, 2] (by decide) rfl) hS ls (lv_sub hl [1, 0] rfl)
set_option maxHeartbeats 4000000 in
set_option maxRecDepth 100000 in
/-- joinEntries of a fresh book -/
theorem c_joinEntries0 (l : Launch) (D : va_G) (dA : Nat → ClassId) (dZ : Nat → Nat) (sz : Nat) (kn : Nat) (bk : Nat) (xl : Nat) (k1 : Nat) (k2 : Nat) (k3 : Nat) (k4 : Nat) (k5 : Nat) (k6 : Nat) (k7 : Nat) (k8 : Nat) (k9 : Nat) (b1 : Nat) (b2 : Nat) (b3 : Nat) (b4 : Nat) (hd : Int32) (vr : Int32) (fv : Int32) (sz0 : Int32) (f1 : Nat → Int32) (f2 : Nat → Int32) : Met l yX5_joinEntries (wz yX5_joinEntries cX5_joinEntries 3 none) ({ frames := 2, cells := 0, slots := 0, locals := 60 } : Room) (va_Pc [.ref kn] (zP D dA dZ [(kn, .inr (6, [.ref bk, .ref xl, .ref k1, .ref k2, .ref k3, .int sz0, .ref k4, .ref k5, .ref k6, .ref k7, .ref k8, .ref k9, .int fv])), (bk, .inr (5, [.int hd, .ref xl, .ref b1, .ref b2, .ref b3, .ref b4, .int 0, .int 0, .int vr])), (b3, .inl (dA 1, 250, .inl (fun _ => 0))), (k1, .inl (dA 0, 250, .inl f1)), (k2, .inl (dA 1, 250, .inl f2))] sz)) (va_Qv (fun (u : (Nat → Int32) × (Nat → Int32)) => True) (fun u => zB D (va_A [(kn, .inr (6, [.ref bk, .ref xl, .ref k1, .ref k2, .ref k3, .int sz0, .ref k4, .ref k5, .ref k6, .ref k7, .ref k8, .ref k9, .int fv])), (bk, .inr (5, [.int hd, .ref xl, .ref b1, .ref b2, .ref b3, .ref b4, .int 0, .int 0, .int vr])), (b3, .inl (dA 1, 250, .inl (fun _ => 0))), (k1, .inl (dA 0, 250, .inl f1)), (k2, .inl (dA 1, 250, .inl f2))] sz) [(kn, .inr (6, [.ref bk, .ref xl, .ref k1, .ref k2, .ref k3, .int sz0, .ref k4, .ref k5, .ref k6, .ref k7, .ref k8, .ref k9, .int fv])), (bk, .inr (5, [.int hd, .ref xl, .ref b1, .ref b2, .ref b3, .ref b4, .int 0, .int 0, .int vr])), (b3, .inl (dA 1, 250, .inl (fun _ => 0))), (k1, .inl (dA 0, 250, .inl u.1)), (k2, .inl (dA 1, 250, .inl u.2))]) (va_A [(kn, .inr (6, [.ref bk, .ref xl, .ref k1, .ref k2, .ref k3, .int sz0, .ref k4, .ref k5, .ref k6, .ref k7, .ref k8, .ref k9, .int fv])), (bk, .inr (5, [.int hd, .ref xl, .ref b1, .ref b2, .ref b3, .ref b4, .int 0, .int 0, .int vr])), (b3, .inl (dA 1, 250, .inl (fun _ => 0))), (k1, .inl (dA 0, 250, .inl f1)), (k2, .inl (dA 1, 250, .inl f2))] sz)) 0 0 (va_A [(kn, .inr (6, [.ref bk, .ref xl, .ref k1, .ref k2, .ref k3, .int sz0, .ref k4, .ref k5, .ref k6, .ref k7, .ref k8, .ref k9, .int fv])), (bk, .inr (5, [.int hd, .ref xl, .ref b1, .ref b2, .ref b3, .ref b4, .int 0, .int 0, .int vr])), (b3, .inl (dA 1, 250, .inl (fun _ => 0))), (k1, .inl (dA 0, 250, .inl f1)), (k2, .inl (dA 1, 250, .inl f2))] sz) := by
  refine Met.ofW (cc := cX5_joinEntries) (maxL := 3) (ret := none) (by decide) rfl ?_
  intro p e s m args below meth c s₁ B hml hv
  obtain ⟨rfl, hsz, hP, hK, hD0, hT, hE⟩ := hv
  have hx := B.exec
  have hb := B.bytes
  have hr := B.returns
  have hw := wz_hw (atoms_spec (ws := wz yX5_joinEntries cX5_joinEntries 3 none) B.pre)
  have hown : s.vm.findClass "KindredBooks$Kin" = some m.cls := findClass_of_methodNamed B.named
  have hlocks := B.notSynchronized
  have hn := hT.1.use (args := ([.ref kn] : List Value).toArray)
  subst hsz
  have hD := hD0.self (sz := s.heap.size)
  generalize hAe : va_A [(kn, .inr (6, [.ref bk, .ref xl, .ref k1, .ref k2, .ref k3, .int sz0, .ref k4, .ref k5, .ref k6, .ref k7, .ref k8, .ref k9, .int fv])), (bk, .inr (5, [.int hd, .ref xl, .ref b1, .ref b2, .ref b3, .ref b4, .int 0, .int 0, .int vr])), (b3, .inl (dA 1, 250, .inl (fun _ => 0))), (k1, .inl (dA 0, 250, .inl f1)), (k2, .inl (dA 1, 250, .inl f2))] s.heap.size = A at hD hE ⊢
  have hA : ∀ q : Nat, s.heap.size ≤ q → A q := fun q h => by rw [← hAe]; exact Or.inr h
  have hS : va_S A s.heap s.heap [] := va_S.rf
  replace hP : va_P D zcl [(kn, .inr (6, [.ref bk, .ref xl, .ref k1, .ref k2, .ref k3, .int sz0, .ref k4, .ref k5, .ref k6, .ref k7, .ref k8, .ref k9, .int fv])), (bk, .inr (5, [.int hd, .ref xl, .ref b1, .ref b2, .ref b3, .ref b4, .int 0, .int 0, .int vr])), (b3, .inl (dA 1, 250, .inl (fun _ => 0))), (k1, .inl (dA 0, 250, .inl f1)), (k2, .inl (dA 1, 250, .inl f2))] s.heap := hP
  have hl := lv_entry ([.ref kn]) (n := 3) (Nat.le_of_ble_eq_true rfl)
  rw [lg_entry_eq]
  generalize (lg_sl ([.ref kn]) ++ List.replicate (3 - (lg_sl ([.ref kn])).length) Slot.unset).toArray = ls at hl ⊢
  replace hl : lv_has ls 3 [(0, .ref kn)] := hl
  refine lv_iconst (v := 0) hx hb dX5_joinEntries_0 (by decide) ?_
  refine lv_istore_n (lv' := [(1, .int 0), (0, .ref kn)]) hx hb dX5_joinEntries_1 rfl hl (by decide) rfl (fun ls hl => ?_)
  refine lp_joinEntries kn bk xl k1 k2 k3 k4 k5 k6 k7 k8 k9 b1 b2 b3 b4 hd vr fv sz0 hx hb hml hown hw hn hK hT hE hA (Nat.le_of_ble_eq_true rfl) (Nat.le_of_ble_eq_true rfl) (Nat.le_of_ble_eq_true rfl) (Nat.le_of_ble_eq_true rfl) (fun g1 g2  H locs hP hD hS ls hl => ?_) (250 + 1) 0 f1 f2 (by omega) (by omega) (by omega)  _ _ (hP.sub [0, 1, 2, 3, 4] rfl) (hD.sub [0, 1, 2, 3, 4] (by decide) rfl) hS ls (lv_sub hl [1, 0] rfl)
  refine lv_iconst (v := 0) hx hb dX5_joinEntries_44 (by decide) ?_
  refine lv_istore_n (lv' := [(1, .int 0), (0, .ref kn)]) hx hb dX5_joinEntries_45 rfl hl (by decide) rfl (fun ls hl => ?_)
  refine lv_iload_n hx hb dX5_joinEntries_46 rfl (lv_at hl 0 rfl) ?_
  refine lv_aload_n hx hb dX5_joinEntries_47 rfl (lv_at hl 1 rfl) ?_
  refine va_get (D := D) (ci := 6) (v := .ref bk) (C := "KindredBooks$Kin") (T := T_zk6) (N := 13) hx hb hw in_zk6 hown hK hP 0 rfl rfl 0 (by decide) (hw _ mw_304) (fun _ h9 => h9) rfl dX5_joinEntries_48 ?_
  refine va_getN (D := D) (ci := 5) (v := .int 0) (C := "KindredBooks$Book") (T := T_zk5) (N := 9) hx hb hw in_zk5 hown hK hP 1 rfl rfl 6 (by decide) (hn _ mn_274) (fun _ h9 => h9) rfl dX5_joinEntries_51 ?_
  refine lv_icmp_ge (tgt := 99) hx hb dX5_joinEntries_54 (by decide) (fun _ => ?_) (fun zc => absurd (by decide) zc)
  have hP9 := hP.sub (ws' := [(kn, .inr (6, [.ref bk, .ref xl, .ref k1, .ref k2, .ref k3, .int sz0, .ref k4, .ref k5, .ref k6, .ref k7, .ref k8, .ref k9, .int fv])), (bk, .inr (5, [.int hd, .ref xl, .ref b1, .ref b2, .ref b3, .ref b4, .int 0, .int 0, .int vr])), (b3, .inl (dA 1, 250, .inl (fun _ => 0))), (k1, .inl (dA 0, 250, .inl g1)), (k2, .inl (dA 1, 250, .inl g2))]) [0, 1, 2, 3, 4] rfl
  have hD9 := hD.sub (ws' := [(kn, .inr (6, [.ref bk, .ref xl, .ref k1, .ref k2, .ref k3, .int sz0, .ref k4, .ref k5, .ref k6, .ref k7, .ref k8, .ref k9, .int fv])), (bk, .inr (5, [.int hd, .ref xl, .ref b1, .ref b2, .ref b3, .ref b4, .int 0, .int 0, .int vr])), (b3, .inl (dA 1, 250, .inl (fun _ => 0))), (k1, .inl (dA 0, 250, .inl g1)), (k2, .inl (dA 1, 250, .inl g2))]) [0, 1, 2, 3, 4] (by decide) rfl
  exact W.vret hx hb hr (fun t ht hW => ⟨⟨(g1, g2), rfl, trivial, by rw [ht]; exact hP9, hD9⟩, hS.F ht⟩) hS.2.2 dX5_joinEntries_99
set_option maxHeartbeats 4000000 in
set_option maxRecDepth 100000 in
/-- listGroups of an empty ledger -/
theorem c_listGroups0 (l : Launch) (D : va_G) (dA : Nat → ClassId) (dZ : Nat → Nat) (sz : Nat) (kn : Nat) (bk : Nat) (xl : Nat) (k1 : Nat) (k2 : Nat) (k3 : Nat) (k4 : Nat) (k5 : Nat) (k6 : Nat) (k7 : Nat) (k8 : Nat) (k9 : Nat) (bl : Nat) (no : Nat) (ro : Nat) (fv : Int32) (sz0 : Int32) : Met l yX5_listGroups (wz yX5_listGroups cX5_listGroups 2 none) ({ frames := 0, cells := 0, slots := 0, locals := 0 } : Room) (va_Pc [.ref kn] (zP D dA dZ [(kn, .inr (6, [.ref bk, .ref xl, .ref k1, .ref k2, .ref k3, .int sz0, .ref k4, .ref k5, .ref k6, .ref k7, .ref k8, .ref k9, .int fv])), (xl, .inr (2, [.ref bl, .ref no, .ref ro, .int 0]))] sz)) (va_Qv (fun (_ : Unit) => True) (fun _ => zB D (va_A [(kn, .inr (6, [.ref bk, .ref xl, .ref k1, .ref k2, .ref k3, .int sz0, .ref k4, .ref k5, .ref k6, .ref k7, .ref k8, .ref k9, .int fv])), (xl, .inr (2, [.ref bl, .ref no, .ref ro, .int 0]))] sz) [(kn, .inr (6, [.ref bk, .ref xl, .ref k1, .ref k2, .ref k3, .int 0, .ref k4, .ref k5, .ref k6, .ref k7, .ref k8, .ref k9, .int fv])), (xl, .inr (2, [.ref bl, .ref no, .ref ro, .int 0]))]) (va_A [(kn, .inr (6, [.ref bk, .ref xl, .ref k1, .ref k2, .ref k3, .int sz0, .ref k4, .ref k5, .ref k6, .ref k7, .ref k8, .ref k9, .int fv])), (xl, .inr (2, [.ref bl, .ref no, .ref ro, .int 0]))] sz)) 0 0 (va_A [(kn, .inr (6, [.ref bk, .ref xl, .ref k1, .ref k2, .ref k3, .int sz0, .ref k4, .ref k5, .ref k6, .ref k7, .ref k8, .ref k9, .int fv])), (xl, .inr (2, [.ref bl, .ref no, .ref ro, .int 0]))] sz) := by
  refine Met.ofW (cc := cX5_listGroups) (maxL := 2) (ret := none) (by decide) rfl ?_
  intro p e s m args below meth c s₁ B hml hv
  obtain ⟨rfl, hsz, hP, hK, hD0, hT, hE⟩ := hv
  have hx := B.exec
  have hb := B.bytes
  have hr := B.returns
  have hw := wz_hw (atoms_spec (ws := wz yX5_listGroups cX5_listGroups 2 none) B.pre)
  have hown : s.vm.findClass "KindredBooks$Kin" = some m.cls := findClass_of_methodNamed B.named
  have hlocks := B.notSynchronized
  have hn := hT.1.use (args := ([.ref kn] : List Value).toArray)
  subst hsz
  have hD := hD0.self (sz := s.heap.size)
  generalize hAe : va_A [(kn, .inr (6, [.ref bk, .ref xl, .ref k1, .ref k2, .ref k3, .int sz0, .ref k4, .ref k5, .ref k6, .ref k7, .ref k8, .ref k9, .int fv])), (xl, .inr (2, [.ref bl, .ref no, .ref ro, .int 0]))] s.heap.size = A at hD hE ⊢
  have hA : ∀ q : Nat, s.heap.size ≤ q → A q := fun q h => by rw [← hAe]; exact Or.inr h
  have hS : va_S A s.heap s.heap [] := va_S.rf
  replace hP : va_P D zcl [(kn, .inr (6, [.ref bk, .ref xl, .ref k1, .ref k2, .ref k3, .int sz0, .ref k4, .ref k5, .ref k6, .ref k7, .ref k8, .ref k9, .int fv])), (xl, .inr (2, [.ref bl, .ref no, .ref ro, .int 0]))] s.heap := hP
  have hl := lv_entry ([.ref kn]) (n := 2) (Nat.le_of_ble_eq_true rfl)
  rw [lg_entry_eq]
  generalize (lg_sl ([.ref kn]) ++ List.replicate (2 - (lg_sl ([.ref kn])).length) Slot.unset).toArray = ls at hl ⊢
  replace hl : lv_has ls 2 [(0, .ref kn)] := hl
  refine lv_aload_n hx hb dX5_listGroups_0 rfl (lv_at hl 0 rfl) ?_
  refine lv_iconst (v := 0) hx hb dX5_listGroups_1 (by decide) ?_
  refine va_put (D := D) (ci := 6) (v := .int 0) (ty := .int) (C := "KindredBooks$Kin") (T := T_zk6) (N := 13) hx hb hw in_zk6 ty_zk6 ok_zk6 nm_zk6 hown hK hP hD hS 0 rfl rfl 5 (by decide) (hw _ mw_309) (fun _ h9 => h9) rfl (by decide +kernel) rfl rfl (Nat.le_of_ble_eq_true rfl) dX5_listGroups_2 (fun H locs hP hD hS => ?_)
  have hP : va_P D zcl [(kn, .inr (6, [.ref bk, .ref xl, .ref k1, .ref k2, .ref k3, .int 0, .ref k4, .ref k5, .ref k6, .ref k7, .ref k8, .ref k9, .int fv])), (xl, .inr (2, [.ref bl, .ref no, .ref ro, .int 0]))] H := hP
  have hD : va_D A [(kn, .inr (6, [.ref bk, .ref xl, .ref k1, .ref k2, .ref k3, .int 0, .ref k4, .ref k5, .ref k6, .ref k7, .ref k8, .ref k9, .int fv])), (xl, .inr (2, [.ref bl, .ref no, .ref ro, .int 0]))] := hD
  refine lv_iconst (v := 0) hx hb dX5_listGroups_5 (by decide) ?_
  refine lv_istore_n (lv' := [(1, .int 0), (0, .ref kn)]) hx hb dX5_listGroups_6 rfl hl (by decide) rfl (fun ls hl => ?_)
  refine lv_iload_n hx hb dX5_listGroups_7 rfl (lv_at hl 0 rfl) ?_
  refine lv_aload_n hx hb dX5_listGroups_8 rfl (lv_at hl 1 rfl) ?_
  refine va_get (D := D) (ci := 6) (v := .ref xl) (C := "KindredBooks$Kin") (T := T_zk6) (N := 13) hx hb hw in_zk6 hown hK hP 0 rfl rfl 1 (by decide) (hw _ mw_305) (fun _ h9 => h9) rfl dX5_listGroups_9 ?_
  refine va_getN (D := D) (ci := 2) (v := .int 0) (C := "KindredBooks$Ledger") (T := T_zk2) (N := 4) hx hb hw in_zk2 hown hK hP 1 rfl rfl 3 (by decide) (hn _ mn_171) (fun _ h9 => h9) rfl dX5_listGroups_12 ?_
  refine lv_icmp_ge (tgt := 54) hx hb dX5_listGroups_15 (by decide) (fun _ => ?_) (fun zc => absurd (by decide) zc)
  have hP9 := hP.sub (ws' := [(kn, .inr (6, [.ref bk, .ref xl, .ref k1, .ref k2, .ref k3, .int 0, .ref k4, .ref k5, .ref k6, .ref k7, .ref k8, .ref k9, .int fv])), (xl, .inr (2, [.ref bl, .ref no, .ref ro, .int 0]))]) [0, 1] rfl
  have hD9 := hD.sub (ws' := [(kn, .inr (6, [.ref bk, .ref xl, .ref k1, .ref k2, .ref k3, .int 0, .ref k4, .ref k5, .ref k6, .ref k7, .ref k8, .ref k9, .int fv])), (xl, .inr (2, [.ref bl, .ref no, .ref ro, .int 0]))]) [0, 1] (by decide) rfl
  exact W.vret hx hb hr (fun t ht hW => ⟨⟨(), rfl, trivial, by rw [ht]; exact hP9, hD9⟩, hS.F ht⟩) hS.2.2 dX5_listGroups_54
set_option maxHeartbeats 4000000 in
set_option maxRecDepth 100000 in
/-- the loop of Arrays.fill -/
theorem lp_fill {p : Program} {l : Launch} {e : Env} {R : Room} {s : State} {m : MethodId} {args : Array Value} {below : List Frame} {meth : Method} {c : Code} {cells slots : Nat} {Q : State → Prop} {A : Nat → Prop} {D : va_G} {dA : Nat → ClassId} {dZ : Nat → Nat} (a : Nat) (v : Int32) (N : Nat) (hx : p.tables.exec = Jvm.exec) (hb : c.code = cJ7_fill_53178) (hml : c.maxLocals = 4) (hown : s.vm.findClass "java/util/Arrays" = some m.cls) (hw : ∀ w ∈ W0, w.before args s = true) (hn : ∀ w ∈ N0, w.before args s = true) (hK : va_K D zcl (tz dA) s) (hT : zT s) (hE : zE dZ A s s.heap) (hA : ∀ q : Nat, s.heap.size ≤ q → A q) (hRf : 0 ≤ R.frames) (hRl : 0 ≤ R.locals) (hRc : cells ≤ R.cells) (hRs : slots ≤ R.slots) (hN : N < 2 ^ 30)
    (kk : ∀ (g1 : Nat → Int32), ∀ (H : Heap) (locs : List Loc), va_P D zcl [(a, .inl (dA 0, N, .inl g1))] H → va_D A [(a, .inl (dA 0, N, .inl g1))] → va_S A s.heap H locs → ∀ ls : Array Slot, lv_has ls 4 [(0, .ref a)] → W p l e R s m args below meth c H locs cells slots Q (F0 m 20 ls [])) :
    ∀ (n i : Nat) (g1 : Nat → Int32), 0 ≤ i → i ≤ N → N + 1 ≤ i + n → ∀ (H : Heap) (locs : List Loc), va_P D zcl [(a, .inl (dA 0, N, .inl g1))] H → va_D A [(a, .inl (dA 0, N, .inl g1))] → va_S A s.heap H locs → ∀ ls : Array Slot, lv_has ls 4 [(0, .ref a), (1, .int v), (2, .int (nI i)), (3, .int (nI N))] → W p l e R s m args below meth c H locs cells slots Q (F0 m 5 ls []) := by
  intro n
  induction n with
  | zero =>
    intro i g1 h0 h1 h2
    exact absurd h2 (by omega)
  | succ n ih =>
    intro i g1 h0 h1 h2  H locs hP hD hS ls hl
    refine lv_iload_n hx hb dJ7_fill_53178_5 rfl (lv_at hl 2 rfl) ?_
    refine lv_iload_n hx hb dJ7_fill_53178_6 rfl (lv_at hl 3 rfl) ?_
    refine lv_icmp_ge (tgt := 20) hx hb dJ7_fill_53178_7 (by decide) (fun c1 => ?_) (fun c1 => ?_)
    · exact kk g1  H locs (hP.sub [0] rfl) (hD.sub [0] (by decide) rfl) hS ls (lv_sub hl [0] rfl)
    · refine lv_aload_n hx hb dJ7_fill_53178_10 rfl (lv_at hl 0 rfl) ?_
      refine lv_iload_n hx hb dJ7_fill_53178_11 rfl (lv_at hl 2 rfl) ?_
      refine lv_iload_n hx hb dJ7_fill_53178_12 rfl (lv_at hl 1 rfl) ?_
      refine va_iast hx hb hK hP hD hS 0 0 rfl rfl (vp_in_nI (z_clt (N := N) rfl (by omega) c1) (by omega)) dJ7_fill_53178_13 (fun H locs hP hD hS => ?_)
      obtain ⟨g3, eg3⟩ : ∃ g, g = (upd g1 (nI i).toNatClampNeg v) := ⟨_, rfl⟩
      rw [← eg3] at hP hD
      have hP : va_P D zcl [(a, .inl (dA 0, N, .inl g3))] H := hP
      have hD : va_D A [(a, .inl (dA 0, N, .inl g3))] := hD
      refine lv_iinc (v := (nI (i + 1))) (lv' := [(2, .int (nI (i + 1))), (0, .ref a), (1, .int v), (3, .int (nI N))]) hx hb dJ7_fill_53178_14 hl (k := 2) rfl (z_inc i) (by decide) rfl (fun ls hl => ?_)
      refine lv_goto (tgt := 5) hx hb dJ7_fill_53178_17 (by decide) ?_
      exact ih (i + 1) g3 (by omega) (z_clt (N := N) rfl (by omega) c1) (by omega)  H locs (hP.sub [0] rfl) (hD.sub [0] (by decide) rfl) hS ls (lv_sub hl [1, 2, 0, 3] rfl)
set_option maxHeartbeats 4000000 in
set_option maxRecDepth 100000 in
/-- Arrays.fill -/
theorem c_fill (l : Launch) (D : va_G) (dA : Nat → ClassId) (dZ : Nat → Nat) (sz : Nat) (a : Nat) (v : Int32) (N : Nat) (f1 : Nat → Int32) (hN : N < 2 ^ 30) : Met l yJ7_fill_53178 (wz yJ7_fill_53178 cJ7_fill_53178 4 none) ({ frames := 0, cells := 0, slots := 0, locals := 0 } : Room) (va_Pc [.ref a, .int v] (zP D dA dZ [(a, .inl (dA 0, N, .inl f1))] sz)) (va_Qv (fun (u : (Nat → Int32)) => True) (fun u => zB D (va_A [(a, .inl (dA 0, N, .inl f1))] sz) [(a, .inl (dA 0, N, .inl u))]) (va_A [(a, .inl (dA 0, N, .inl f1))] sz)) 0 0 (va_A [(a, .inl (dA 0, N, .inl f1))] sz) := by
  refine Met.ofW (cc := cJ7_fill_53178) (maxL := 4) (ret := none) (by decide) rfl ?_
  intro p e s m args below meth c s₁ B hml hv
  obtain ⟨rfl, hsz, hP, hK, hD0, hT, hE⟩ := hv
  have hx := B.exec
  have hb := B.bytes
  have hr := B.returns
  have hw := wz_hw (atoms_spec (ws := wz yJ7_fill_53178 cJ7_fill_53178 4 none) B.pre)
  have hown : s.vm.findClass "java/util/Arrays" = some m.cls := findClass_of_methodNamed B.named
  have hlocks := B.notSynchronized
  have hn := hT.1.use (args := ([.ref a, .int v] : List Value).toArray)
  subst hsz
  have hD := hD0.self (sz := s.heap.size)
  generalize hAe : va_A [(a, .inl (dA 0, N, .inl f1))] s.heap.size = A at hD hE ⊢
  have hA : ∀ q : Nat, s.heap.size ≤ q → A q := fun q h => by rw [← hAe]; exact Or.inr h
  have hS : va_S A s.heap s.heap [] := va_S.rf
  replace hP : va_P D zcl [(a, .inl (dA 0, N, .inl f1))] s.heap := hP
  have hl := lv_entry ([.ref a, .int v]) (n := 4) (Nat.le_of_ble_eq_true rfl)
  rw [lg_entry_eq]
  generalize (lg_sl ([.ref a, .int v]) ++ List.replicate (4 - (lg_sl ([.ref a, .int v])).length) Slot.unset).toArray = ls at hl ⊢
  replace hl : lv_has ls 4 [(0, .ref a), (1, .int v)] := hl
  refine lv_iconst (v := 0) hx hb dJ7_fill_53178_0 (by decide) ?_
  refine lv_istore_n (lv' := [(2, .int 0), (0, .ref a), (1, .int v)]) hx hb dJ7_fill_53178_1 rfl hl (by decide) rfl (fun ls hl => ?_)
  refine lv_aload_n hx hb dJ7_fill_53178_2 rfl (lv_at hl 1 rfl) ?_
  refine va_alen hx hb hK hP 0 0 rfl rfl (v := (nI N)) rfl dJ7_fill_53178_3 ?_
  refine lv_istore_n (lv' := [(3, .int (nI N)), (2, .int 0), (0, .ref a), (1, .int v)]) hx hb dJ7_fill_53178_4 rfl hl (by decide) rfl (fun ls hl => ?_)
  refine lp_fill a v N hx hb hml hown hw hn hK hT hE hA (Nat.le_of_ble_eq_true rfl) (Nat.le_of_ble_eq_true rfl) (Nat.le_of_ble_eq_true rfl) (Nat.le_of_ble_eq_true rfl) hN (fun g1  H locs hP hD hS ls hl => ?_) (N + 1) 0 f1 (by omega) (by omega) (by omega)  _ _ (hP.sub [0] rfl) (hD.sub [0] (by decide) rfl) hS ls (lv_sub hl [2, 3, 1, 0] rfl)
  have hP9 := hP.sub (ws' := [(a, .inl (dA 0, N, .inl g1))]) [0] rfl
  have hD9 := hD.sub (ws' := [(a, .inl (dA 0, N, .inl g1))]) [0] (by decide) rfl
  exact W.vret hx hb hr (fun t ht hW => ⟨⟨g1, rfl, trivial, by rw [ht]; exact hP9, hD9⟩, hS.F ht⟩) hS.2.2 dJ7_fill_53178_20
set_option maxHeartbeats 4000000 in
set_option maxRecDepth 100000 in
/-- the adding loop of placeLines -/
theorem lp_placeLines {p : Program} {l : Launch} {e : Env} {R : Room} {s : State} {m : MethodId} {args : Array Value} {below : List Frame} {meth : Method} {c : Code} {cells slots : Nat} {Q : State → Prop} {A : Nat → Prop} {D : va_G} {dA : Nat → ClassId} {dZ : Nat → Nat} (kn : Nat) (bk : Nat) (xl : Nat) (k1 : Nat) (k2 : Nat) (k3 : Nat) (k4 : Nat) (k5 : Nat) (k6 : Nat) (k7 : Nat) (k8 : Nat) (k9 : Nat) (b1 : Nat) (b2 : Nat) (b3 : Nat) (b4 : Nat) (bl : Nat) (no : Nat) (ro : Nat) (hd : Int32) (vr : Int32) (fv : Int32) (sz0 : Int32) (hx : p.tables.exec = Jvm.exec) (hb : c.code = cX5_placeLines) (hml : c.maxLocals = 4) (hown : s.vm.findClass "KindredBooks$Kin" = some m.cls) (hw : ∀ w ∈ W0, w.before args s = true) (hn : ∀ w ∈ N0, w.before args s = true) (hK : va_K D zcl (tz dA) s) (hT : zT s) (hE : zE dZ A s s.heap) (hA : ∀ q : Nat, s.heap.size ≤ q → A q) (hRf : 0 ≤ R.frames) (hRl : 0 ≤ R.locals) (hRc : cells ≤ R.cells) (hRs : slots ≤ R.slots)
    (kk : ∀ (g1 : Nat → Int32), ∀ (H : Heap) (locs : List Loc), va_P D zcl [(kn, .inr (6, [.ref bk, .ref xl, .ref k1, .ref k2, .ref k3, .int sz0, .ref k4, .ref k5, .ref k6, .ref k7, .ref k8, .ref k9, .int fv])), (bk, .inr (5, [.int hd, .ref xl, .ref b1, .ref b2, .ref b3, .ref b4, .int 0, .int 0, .int vr])), (xl, .inr (2, [.ref bl, .ref no, .ref ro, .int 0])), (k5, .inl (dA 0, 251, .inl g1))] H → va_D A [(kn, .inr (6, [.ref bk, .ref xl, .ref k1, .ref k2, .ref k3, .int sz0, .ref k4, .ref k5, .ref k6, .ref k7, .ref k8, .ref k9, .int fv])), (bk, .inr (5, [.int hd, .ref xl, .ref b1, .ref b2, .ref b3, .ref b4, .int 0, .int 0, .int vr])), (xl, .inr (2, [.ref bl, .ref no, .ref ro, .int 0])), (k5, .inl (dA 0, 251, .inl g1))] → va_S A s.heap H locs → ∀ ls : Array Slot, lv_has ls 4 [(0, .ref kn)] → W p l e R s m args below meth c H locs cells slots Q (F0 m 95 ls [])) :
    ∀ (n i : Nat) (g1 : Nat → Int32), 1 ≤ i → i ≤ 251 → 251 + 1 ≤ i + n → ∀ (H : Heap) (locs : List Loc), va_P D zcl [(kn, .inr (6, [.ref bk, .ref xl, .ref k1, .ref k2, .ref k3, .int sz0, .ref k4, .ref k5, .ref k6, .ref k7, .ref k8, .ref k9, .int fv])), (bk, .inr (5, [.int hd, .ref xl, .ref b1, .ref b2, .ref b3, .ref b4, .int 0, .int 0, .int vr])), (xl, .inr (2, [.ref bl, .ref no, .ref ro, .int 0])), (k5, .inl (dA 0, 251, .inl g1))] H → va_D A [(kn, .inr (6, [.ref bk, .ref xl, .ref k1, .ref k2, .ref k3, .int sz0, .ref k4, .ref k5, .ref k6, .ref k7, .ref k8, .ref k9, .int fv])), (bk, .inr (5, [.int hd, .ref xl, .ref b1, .ref b2, .ref b3, .ref b4, .int 0, .int 0, .int vr])), (xl, .inr (2, [.ref bl, .ref no, .ref ro, .int 0])), (k5, .inl (dA 0, 251, .inl g1))] → va_S A s.heap H locs → ∀ ls : Array Slot, lv_has ls 4 [(0, .ref kn), (1, .int (nI i))] → W p l e R s m args below meth c H locs cells slots Q (F0 m 63 ls []) := by
  intro n
  induction n with
  | zero =>
    intro i g1 h0 h1 h2
    exact absurd h2 (by omega)
  | succ n ih =>
    intro i g1 h0 h1 h2  H locs hP hD hS ls hl
    refine lv_iload_n hx hb dX5_placeLines_63 rfl (lv_at hl 1 rfl) ?_
    refine lv_aload_n hx hb dX5_placeLines_64 rfl (lv_at hl 0 rfl) ?_
    refine va_get (D := D) (ci := 6) (v := .ref k5) (C := "KindredBooks$Kin") (T := T_zk6) (N := 13) hx hb hw in_zk6 hown hK hP 0 rfl rfl 7 (by decide) (hw _ mw_313) (fun _ h9 => h9) rfl dX5_placeLines_65 ?_
    refine va_alen hx hb hK hP 3 0 rfl rfl (v := 251) (show Int32.ofNat 251 = 251 from by decide) dX5_placeLines_68 ?_
    refine lv_icmp_ge (tgt := 95) hx hb dX5_placeLines_69 (by decide) (fun c1 => ?_) (fun c1 => ?_)
    · exact kk g1  H locs (hP.sub [0, 1, 2, 3] rfl) (hD.sub [0, 1, 2, 3] (by decide) rfl) hS ls (lv_sub hl [0] rfl)
    · have hlt := z_clt (N := 251) rfl (by omega) c1
      refine lv_aload_n hx hb dX5_placeLines_72 rfl (lv_at hl 0 rfl) ?_
      refine va_get (D := D) (ci := 6) (v := .ref k5) (C := "KindredBooks$Kin") (T := T_zk6) (N := 13) hx hb hw in_zk6 hown hK hP 0 rfl rfl 7 (by decide) (hw _ mw_313) (fun _ h9 => h9) rfl dX5_placeLines_73 ?_
      refine lv_iload_n hx hb dX5_placeLines_76 rfl (lv_at hl 1 rfl) ?_
      refine lv_dup2_11 hx hb dX5_placeLines_77 rfl rfl ?_
      refine va_iald hx hb hK hP 3 0 rfl rfl (vp_in_nI hlt (by omega)) dX5_placeLines_78 ?_
      refine lv_topi (fun v_1 ev_1 => ?_)
      refine lv_aload_n hx hb dX5_placeLines_79 rfl (lv_at hl 0 rfl) ?_
      refine va_get (D := D) (ci := 6) (v := .ref k5) (C := "KindredBooks$Kin") (T := T_zk6) (N := 13) hx hb hw in_zk6 hown hK hP 0 rfl rfl 7 (by decide) (hw _ mw_313) (fun _ h9 => h9) rfl dX5_placeLines_80 ?_
      refine lv_iload_n hx hb dX5_placeLines_83 rfl (lv_at hl 1 rfl) ?_
      refine lv_iconst (v := 1) hx hb dX5_placeLines_84 (by decide) ?_
      refine lv_isub hx hb dX5_placeLines_85 ?_
      refine lv_topi (fun v_2 ev_2 => ?_)
      obtain rfl : v_2 = (nI (i - 1)) := ev_2.trans (pk_sub (b := 1) h0)
      refine va_iald hx hb hK hP 3 0 rfl rfl (vp_in_nI (show i - 1 < 251 by omega) (by omega)) dX5_placeLines_86 ?_
      refine lv_topi (fun v_3 ev_3 => ?_)
      refine lv_iadd hx hb dX5_placeLines_87 ?_
      refine lv_topi (fun v_4 ev_4 => ?_)
      refine va_iast hx hb hK hP hD hS 3 0 rfl rfl (vp_in_nI hlt (by omega)) dX5_placeLines_88 (fun H locs hP hD hS => ?_)
      obtain ⟨g3, eg3⟩ : ∃ g, g = (upd g1 (nI i).toNatClampNeg v_4) := ⟨_, rfl⟩
      rw [← eg3] at hP hD
      have hP : va_P D zcl [(kn, .inr (6, [.ref bk, .ref xl, .ref k1, .ref k2, .ref k3, .int sz0, .ref k4, .ref k5, .ref k6, .ref k7, .ref k8, .ref k9, .int fv])), (bk, .inr (5, [.int hd, .ref xl, .ref b1, .ref b2, .ref b3, .ref b4, .int 0, .int 0, .int vr])), (xl, .inr (2, [.ref bl, .ref no, .ref ro, .int 0])), (k5, .inl (dA 0, 251, .inl g3))] H := hP
      have hD : va_D A [(kn, .inr (6, [.ref bk, .ref xl, .ref k1, .ref k2, .ref k3, .int sz0, .ref k4, .ref k5, .ref k6, .ref k7, .ref k8, .ref k9, .int fv])), (bk, .inr (5, [.int hd, .ref xl, .ref b1, .ref b2, .ref b3, .ref b4, .int 0, .int 0, .int vr])), (xl, .inr (2, [.ref bl, .ref no, .ref ro, .int 0])), (k5, .inl (dA 0, 251, .inl g3))] := hD
      refine lv_iinc (v := (nI (i + 1))) (lv' := [(1, .int (nI (i + 1))), (0, .ref kn)]) hx hb dX5_placeLines_89 hl (k := 1) rfl (z_inc i) (by decide) rfl (fun ls hl => ?_)
      refine lv_goto (tgt := 63) hx hb dX5_placeLines_92 (by decide) ?_
      exact ih (i + 1) g3 (by omega) hlt (by omega)  H locs (hP.sub [0, 1, 2, 3] rfl) (hD.sub [0, 1, 2, 3] (by decide) rfl) hS ls (lv_sub hl [1, 0] rfl)
set_option maxHeartbeats 4000000 in
set_option maxRecDepth 100000 in
/-- placeLines of an empty ledger -/
theorem c_placeLines0 (l : Launch) (D : va_G) (dA : Nat → ClassId) (dZ : Nat → Nat) (sz : Nat) (kn : Nat) (bk : Nat) (xl : Nat) (k1 : Nat) (k2 : Nat) (k3 : Nat) (k4 : Nat) (k5 : Nat) (k6 : Nat) (k7 : Nat) (k8 : Nat) (k9 : Nat) (b1 : Nat) (b2 : Nat) (b3 : Nat) (b4 : Nat) (bl : Nat) (no : Nat) (ro : Nat) (hd : Int32) (vr : Int32) (fv : Int32) (sz0 : Int32) (f5 : Nat → Int32) : Met l yX5_placeLines (wz yX5_placeLines cX5_placeLines 4 none) ({ frames := 1, cells := 0, slots := 0, locals := 40 } : Room) (va_Pc [.ref kn] (zP D dA dZ [(kn, .inr (6, [.ref bk, .ref xl, .ref k1, .ref k2, .ref k3, .int sz0, .ref k4, .ref k5, .ref k6, .ref k7, .ref k8, .ref k9, .int fv])), (bk, .inr (5, [.int hd, .ref xl, .ref b1, .ref b2, .ref b3, .ref b4, .int 0, .int 0, .int vr])), (xl, .inr (2, [.ref bl, .ref no, .ref ro, .int 0])), (k5, .inl (dA 0, 251, .inl f5))] sz)) (va_Qv (fun (u : (Nat → Int32)) => True) (fun u => zB D (va_A [(kn, .inr (6, [.ref bk, .ref xl, .ref k1, .ref k2, .ref k3, .int sz0, .ref k4, .ref k5, .ref k6, .ref k7, .ref k8, .ref k9, .int fv])), (bk, .inr (5, [.int hd, .ref xl, .ref b1, .ref b2, .ref b3, .ref b4, .int 0, .int 0, .int vr])), (xl, .inr (2, [.ref bl, .ref no, .ref ro, .int 0])), (k5, .inl (dA 0, 251, .inl f5))] sz) [(kn, .inr (6, [.ref bk, .ref xl, .ref k1, .ref k2, .ref k3, .int sz0, .ref k4, .ref k5, .ref k6, .ref k7, .ref k8, .ref k9, .int fv])), (bk, .inr (5, [.int hd, .ref xl, .ref b1, .ref b2, .ref b3, .ref b4, .int 0, .int 0, .int vr])), (xl, .inr (2, [.ref bl, .ref no, .ref ro, .int 0])), (k5, .inl (dA 0, 251, .inl u))]) (va_A [(kn, .inr (6, [.ref bk, .ref xl, .ref k1, .ref k2, .ref k3, .int sz0, .ref k4, .ref k5, .ref k6, .ref k7, .ref k8, .ref k9, .int fv])), (bk, .inr (5, [.int hd, .ref xl, .ref b1, .ref b2, .ref b3, .ref b4, .int 0, .int 0, .int vr])), (xl, .inr (2, [.ref bl, .ref no, .ref ro, .int 0])), (k5, .inl (dA 0, 251, .inl f5))] sz)) 0 0 (va_A [(kn, .inr (6, [.ref bk, .ref xl, .ref k1, .ref k2, .ref k3, .int sz0, .ref k4, .ref k5, .ref k6, .ref k7, .ref k8, .ref k9, .int fv])), (bk, .inr (5, [.int hd, .ref xl, .ref b1, .ref b2, .ref b3, .ref b4, .int 0, .int 0, .int vr])), (xl, .inr (2, [.ref bl, .ref no, .ref ro, .int 0])), (k5, .inl (dA 0, 251, .inl f5))] sz) := by
  refine Met.ofW (cc := cX5_placeLines) (maxL := 4) (ret := none) (by decide) rfl ?_
  intro p e s m args below meth c s₁ B hml hv
  obtain ⟨rfl, hsz, hP, hK, hD0, hT, hE⟩ := hv
  have hx := B.exec
  have hb := B.bytes
  have hr := B.returns
  have hw := wz_hw (atoms_spec (ws := wz yX5_placeLines cX5_placeLines 4 none) B.pre)
  have hown : s.vm.findClass "KindredBooks$Kin" = some m.cls := findClass_of_methodNamed B.named
  have hlocks := B.notSynchronized
  have hn := hT.1.use (args := ([.ref kn] : List Value).toArray)
  subst hsz
  have hD := hD0.self (sz := s.heap.size)
  generalize hAe : va_A [(kn, .inr (6, [.ref bk, .ref xl, .ref k1, .ref k2, .ref k3, .int sz0, .ref k4, .ref k5, .ref k6, .ref k7, .ref k8, .ref k9, .int fv])), (bk, .inr (5, [.int hd, .ref xl, .ref b1, .ref b2, .ref b3, .ref b4, .int 0, .int 0, .int vr])), (xl, .inr (2, [.ref bl, .ref no, .ref ro, .int 0])), (k5, .inl (dA 0, 251, .inl f5))] s.heap.size = A at hD hE ⊢
  have hA : ∀ q : Nat, s.heap.size ≤ q → A q := fun q h => by rw [← hAe]; exact Or.inr h
  have hS : va_S A s.heap s.heap [] := va_S.rf
  replace hP : va_P D zcl [(kn, .inr (6, [.ref bk, .ref xl, .ref k1, .ref k2, .ref k3, .int sz0, .ref k4, .ref k5, .ref k6, .ref k7, .ref k8, .ref k9, .int fv])), (bk, .inr (5, [.int hd, .ref xl, .ref b1, .ref b2, .ref b3, .ref b4, .int 0, .int 0, .int vr])), (xl, .inr (2, [.ref bl, .ref no, .ref ro, .int 0])), (k5, .inl (dA 0, 251, .inl f5))] s.heap := hP
  have hl := lv_entry ([.ref kn]) (n := 4) (Nat.le_of_ble_eq_true rfl)
  rw [lg_entry_eq]
  generalize (lg_sl ([.ref kn]) ++ List.replicate (4 - (lg_sl ([.ref kn])).length) Slot.unset).toArray = ls at hl ⊢
  replace hl : lv_has ls 4 [(0, .ref kn)] := hl
  refine lv_aload_n hx hb dX5_placeLines_0 rfl (lv_at hl 0 rfl) ?_
  refine va_get (D := D) (ci := 6) (v := .ref k5) (C := "KindredBooks$Kin") (T := T_zk6) (N := 13) hx hb hw in_zk6 hown hK hP 0 rfl rfl 7 (by decide) (hw _ mw_313) (fun _ h9 => h9) rfl dX5_placeLines_1 ?_
  refine lv_iconst (v := 0) hx hb dX5_placeLines_4 (by decide) ?_
  have hPc := hP.sub (ws' := [(k5, .inl (dA 0, 251, .inl f5))]) [3] rfl
  have hDc := hD.sub (ws' := [(k5, .inl (dA 0, 251, .inl f5))]) [3] (by decide) rfl
  have hFc := va_free (wc := [(k5, .inl (dA 0, 251, .inl f5))]) hD hS hA [3] rfl
  refine va_callv (va_runS (As := [.ref k5, .int 0]) (rest := []) ⟨hx, hb, hml, hown, hw⟩ (c_fill l D dA dZ _ k5 0 251 f5 (by decide)) (z_cwS 2 hw mw_903 mw_904 mw_25 mw_905 rfl rfl (by decide +kernel) ⟨Nat.le_of_ble_eq_true rfl, Nat.le_of_ble_eq_true rfl⟩) (zPreS hPc hK hDc hT hE hS hFc) rfl rfl hl.1 rfl (lv_room (Nat.le_of_ble_eq_true rfl)) dX5_placeLines_5 ⟨Nat.le_of_ble_eq_true rfl, Nat.le_of_ble_eq_true rfl⟩) hS (fun q _ h => hFc q h) hFc (fun u t H1 locs ht hvm hpo hB hz1 hk1 hS => ?_)
  obtain ⟨g0, rfl⟩ : ∃ z, z = u := ⟨_, rfl⟩
  try dsimp only at hpo hB
  obtain ⟨hP1, hD1⟩ := hB
  rw [ht] at hP1
  obtain ⟨hP, hD⟩ := va_join (wr := [(kn, .inr (6, [.ref bk, .ref xl, .ref k1, .ref k2, .ref k3, .int sz0, .ref k4, .ref k5, .ref k6, .ref k7, .ref k8, .ref k9, .int fv])), (bk, .inr (5, [.int hd, .ref xl, .ref b1, .ref b2, .ref b3, .ref b4, .int 0, .int 0, .int vr])), (xl, .inr (2, [.ref bl, .ref no, .ref ro, .int 0]))]) (w1 := [(k5, .inl (dA 0, 251, .inl g0))]) hP hD [3] [0, 1, 2] rfl rfl (by decide) (by decide) hk1 hFc hP1 hD1
  generalize H1 = H at hP hS ⊢
  have hP : va_P D zcl [(kn, .inr (6, [.ref bk, .ref xl, .ref k1, .ref k2, .ref k3, .int sz0, .ref k4, .ref k5, .ref k6, .ref k7, .ref k8, .ref k9, .int fv])), (bk, .inr (5, [.int hd, .ref xl, .ref b1, .ref b2, .ref b3, .ref b4, .int 0, .int 0, .int vr])), (xl, .inr (2, [.ref bl, .ref no, .ref ro, .int 0])), (k5, .inl (dA 0, 251, .inl g0))] H := hP
  have hD : va_D A [(kn, .inr (6, [.ref bk, .ref xl, .ref k1, .ref k2, .ref k3, .int sz0, .ref k4, .ref k5, .ref k6, .ref k7, .ref k8, .ref k9, .int fv])), (bk, .inr (5, [.int hd, .ref xl, .ref b1, .ref b2, .ref b3, .ref b4, .int 0, .int 0, .int vr])), (xl, .inr (2, [.ref bl, .ref no, .ref ro, .int 0])), (k5, .inl (dA 0, 251, .inl g0))] := hD
  refine lv_iconst (v := 0) hx hb dX5_placeLines_8 (by decide) ?_
  refine lv_istore_n (lv' := [(1, .int 0), (0, .ref kn)]) hx hb dX5_placeLines_9 rfl hl (by decide) rfl (fun ls hl => ?_)
  refine lv_iload_n hx hb dX5_placeLines_10 rfl (lv_at hl 0 rfl) ?_
  refine lv_aload_n hx hb dX5_placeLines_11 rfl (lv_at hl 1 rfl) ?_
  refine va_get (D := D) (ci := 6) (v := .ref xl) (C := "KindredBooks$Kin") (T := T_zk6) (N := 13) hx hb hw in_zk6 hown hK hP 0 rfl rfl 1 (by decide) (hw _ mw_305) (fun _ h9 => h9) rfl dX5_placeLines_12 ?_
  refine va_getN (D := D) (ci := 2) (v := .int 0) (C := "KindredBooks$Ledger") (T := T_zk2) (N := 4) hx hb hw in_zk2 hown hK hP 2 rfl rfl 3 (by decide) (hn _ mn_171) (fun _ h9 => h9) rfl dX5_placeLines_15 ?_
  refine lv_icmp_ge (tgt := 61) hx hb dX5_placeLines_18 (by decide) (fun _ => ?_) (fun zc => absurd (by decide) zc)
  refine lv_iconst (v := 1) hx hb dX5_placeLines_61 (by decide) ?_
  refine lv_istore_n (lv' := [(1, .int 1), (0, .ref kn)]) hx hb dX5_placeLines_62 rfl hl (by decide) rfl (fun ls hl => ?_)
  refine lp_placeLines kn bk xl k1 k2 k3 k4 k5 k6 k7 k8 k9 b1 b2 b3 b4 bl no ro hd vr fv sz0 hx hb hml hown hw hn hK hT hE hA (Nat.le_of_ble_eq_true rfl) (Nat.le_of_ble_eq_true rfl) (Nat.le_of_ble_eq_true rfl) (Nat.le_of_ble_eq_true rfl) (fun g1  H locs hP hD hS ls hl => ?_) (251 + 1) 1 g0 (by omega) (by omega) (by omega)  _ _ (hP.sub [0, 1, 2, 3] rfl) (hD.sub [0, 1, 2, 3] (by decide) rfl) hS ls (lv_sub hl [1, 0] rfl)
  refine lv_aload_n hx hb dX5_placeLines_95 rfl (lv_at hl 0 rfl) ?_
  refine va_get (D := D) (ci := 6) (v := .ref bk) (C := "KindredBooks$Kin") (T := T_zk6) (N := 13) hx hb hw in_zk6 hown hK hP 0 rfl rfl 0 (by decide) (hw _ mw_304) (fun _ h9 => h9) rfl dX5_placeLines_96 ?_
  refine va_getN (D := D) (ci := 5) (v := .int 0) (C := "KindredBooks$Book") (T := T_zk5) (N := 9) hx hb hw in_zk5 hown hK hP 1 rfl rfl 6 (by decide) (hn _ mn_274) (fun _ h9 => h9) rfl dX5_placeLines_99 ?_
  refine lv_iconst (v := 1) hx hb dX5_placeLines_102 (by decide) ?_
  refine lv_isub hx hb dX5_placeLines_103 ?_
  refine lv_topi (fun v_2 ev_2 => ?_)
  obtain rfl : v_2 = (-1) := ev_2.trans (by decide)
  refine lv_istore_n (lv' := [(1, .int (-1)), (0, .ref kn)]) hx hb dX5_placeLines_104 rfl hl (by decide) rfl (fun ls hl => ?_)
  refine lv_iload_n hx hb dX5_placeLines_105 rfl (lv_at hl 0 rfl) ?_
  refine lv_if_lt (tgt := 165) hx hb dX5_placeLines_106 (by decide) (fun _ => ?_) (fun zc => absurd (by decide) zc)
  have hP9 := hP.sub (ws' := [(kn, .inr (6, [.ref bk, .ref xl, .ref k1, .ref k2, .ref k3, .int sz0, .ref k4, .ref k5, .ref k6, .ref k7, .ref k8, .ref k9, .int fv])), (bk, .inr (5, [.int hd, .ref xl, .ref b1, .ref b2, .ref b3, .ref b4, .int 0, .int 0, .int vr])), (xl, .inr (2, [.ref bl, .ref no, .ref ro, .int 0])), (k5, .inl (dA 0, 251, .inl g1))]) [0, 1, 2, 3] rfl
  have hD9 := hD.sub (ws' := [(kn, .inr (6, [.ref bk, .ref xl, .ref k1, .ref k2, .ref k3, .int sz0, .ref k4, .ref k5, .ref k6, .ref k7, .ref k8, .ref k9, .int fv])), (bk, .inr (5, [.int hd, .ref xl, .ref b1, .ref b2, .ref b3, .ref b4, .int 0, .int 0, .int vr])), (xl, .inr (2, [.ref bl, .ref no, .ref ro, .int 0])), (k5, .inl (dA 0, 251, .inl g1))]) [0, 1, 2, 3] (by decide) rfl
  exact W.vret hx hb hr (fun t ht hW => ⟨⟨g1, rfl, trivial, by rw [ht]; exact hP9, hD9⟩, hS.F ht⟩) hS.2.2 dX5_placeLines_165
end
section
abbrev cX5_refresh : ByteArray := prog_7_method_2_code
def yX5_refresh : MethodName := ⟨"KindredBooks$Kin", "refresh", "()V"⟩
theorem mw_870 : (Jvm.Cond.code ({ cls := "KindredBooks$Kin", name := "refresh", desc := "()V" } : Jvm.MethodName) prog_7_method_2_code (2 : Nat) (Option.none : Option Jvm.ClassFile.FieldType)) ∈ W0 := W0_of (List.mem_append_right _ (List.mem_of_getElem? (i := 870) (by decide +kernel))) rfl
theorem dX5_refresh_0 : decode cX5_refresh 0 = .ok (.aload_n 0, 1) := by decide +kernel
theorem dX5_refresh_1 : decode cX5_refresh 1 = .ok (.getfield 40, 3) := by decide +kernel
theorem mw_318 : (Jvm.Cond.fieldLink "KindredBooks$Kin" (40 : Nat) "KindredBooks$Kin" "freshVersion" "I") ∈ W0 := W0_of (List.mem_append_right _ (List.mem_of_getElem? (i := 318) (by decide +kernel))) rfl
theorem dX5_refresh_4 : decode cX5_refresh 4 = .ok (.aload_n 0, 1) := by decide +kernel
theorem dX5_refresh_5 : decode cX5_refresh 5 = .ok (.getfield 44, 3) := by decide +kernel
theorem dX5_refresh_8 : decode cX5_refresh 8 = .ok (.getfield 52, 3) := by decide +kernel
theorem mn_279 : (Jvm.Cond.fieldLinkNest "KindredBooks$Kin" (52 : Nat) "KindredBooks$Book" "version" "I" "KindredBooks") ∈ N0 := N0_of (List.mem_append_right _ (List.mem_of_getElem? (i := 279) (by decide +kernel))) rfl
theorem dX5_refresh_11 : decode cX5_refresh 11 = .ok (.if_icmp .ne 4, 3) := by decide +kernel
theorem dX5_refresh_15 : decode cX5_refresh 15 = .ok (.aload_n 0, 1) := by decide +kernel
theorem dX5_refresh_16 : decode cX5_refresh 16 = .ok (.aload_n 0, 1) := by decide +kernel
theorem dX5_refresh_17 : decode cX5_refresh 17 = .ok (.getfield 44, 3) := by decide +kernel
theorem dX5_refresh_20 : decode cX5_refresh 20 = .ok (.getfield 52, 3) := by decide +kernel
theorem dX5_refresh_23 : decode cX5_refresh 23 = .ok (.putfield 40, 3) := by decide +kernel
theorem dX5_refresh_26 : decode cX5_refresh 26 = .ok (.aload_n 0, 1) := by decide +kernel
theorem dX5_refresh_27 : decode cX5_refresh 27 = .ok (.invokevirtual 57, 3) := by decide +kernel
theorem mw_871 : (Jvm.Cond.methodLink "KindredBooks$Kin" (57 : Nat) ({ cls := "KindredBooks$Kin", name := "joinEntries", desc := "()V" } : Jvm.MethodName)) ∈ W0 := W0_of (List.mem_append_right _ (List.mem_of_getElem? (i := 871) (by decide +kernel))) rfl
theorem mw_873 : (Jvm.Cond.instanceMethod ({ cls := "KindredBooks$Kin", name := "joinEntries", desc := "()V" } : Jvm.MethodName)) ∈ W0 := W0_of (List.mem_append_right _ (List.mem_of_getElem? (i := 873) (by decide +kernel))) rfl
theorem ms_18 : Cond.selects "KindredBooks$Kin" (⟨"KindredBooks$Kin", "joinEntries", "()V"⟩ : MethodName) (⟨"KindredBooks$Kin", "joinEntries", "()V"⟩ : MethodName) ∈ W0 := W0_of (List.mem_append_left _ (List.mem_of_getElem? (i := 18) (by decide +kernel))) rfl
theorem mw_10 : (Jvm.Cond.initialized "KindredBooks$Kin") ∈ W0 := W0_of (List.mem_append_right _ (List.mem_of_getElem? (i := 10) (by decide +kernel))) rfl
theorem dX5_refresh_30 : decode cX5_refresh 30 = .ok (.aload_n 0, 1) := by decide +kernel
theorem dX5_refresh_31 : decode cX5_refresh 31 = .ok (.invokevirtual 60, 3) := by decide +kernel
theorem mw_895 : (Jvm.Cond.methodLink "KindredBooks$Kin" (60 : Nat) ({ cls := "KindredBooks$Kin", name := "listGroups", desc := "()V" } : Jvm.MethodName)) ∈ W0 := W0_of (List.mem_append_right _ (List.mem_of_getElem? (i := 895) (by decide +kernel))) rfl
theorem mw_897 : (Jvm.Cond.instanceMethod ({ cls := "KindredBooks$Kin", name := "listGroups", desc := "()V" } : Jvm.MethodName)) ∈ W0 := W0_of (List.mem_append_right _ (List.mem_of_getElem? (i := 897) (by decide +kernel))) rfl
theorem ms_20 : Cond.selects "KindredBooks$Kin" (⟨"KindredBooks$Kin", "listGroups", "()V"⟩ : MethodName) (⟨"KindredBooks$Kin", "listGroups", "()V"⟩ : MethodName) ∈ W0 := W0_of (List.mem_append_left _ (List.mem_of_getElem? (i := 20) (by decide +kernel))) rfl
theorem dX5_refresh_34 : decode cX5_refresh 34 = .ok (.aload_n 0, 1) := by decide +kernel
theorem dX5_refresh_35 : decode cX5_refresh 35 = .ok (.invokevirtual 63, 3) := by decide +kernel
theorem mw_899 : (Jvm.Cond.methodLink "KindredBooks$Kin" (63 : Nat) ({ cls := "KindredBooks$Kin", name := "placeLines", desc := "()V" } : Jvm.MethodName)) ∈ W0 := W0_of (List.mem_append_right _ (List.mem_of_getElem? (i := 899) (by decide +kernel))) rfl
theorem mw_901 : (Jvm.Cond.instanceMethod ({ cls := "KindredBooks$Kin", name := "placeLines", desc := "()V" } : Jvm.MethodName)) ∈ W0 := W0_of (List.mem_append_right _ (List.mem_of_getElem? (i := 901) (by decide +kernel))) rfl
theorem ms_21 : Cond.selects "KindredBooks$Kin" (⟨"KindredBooks$Kin", "placeLines", "()V"⟩ : MethodName) (⟨"KindredBooks$Kin", "placeLines", "()V"⟩ : MethodName) ∈ W0 := W0_of (List.mem_append_left _ (List.mem_of_getElem? (i := 21) (by decide +kernel))) rfl
theorem dX5_refresh_38 : decode cX5_refresh 38 = .ok (.iconst 0, 1) := by decide +kernel
theorem dX5_refresh_39 : decode cX5_refresh 39 = .ok (.istore_n 1, 1) := by decide +kernel
theorem dX5_refresh_40 : decode cX5_refresh 40 = .ok (.iload_n 1, 1) := by decide +kernel
theorem dX5_refresh_41 : decode cX5_refresh 41 = .ok (.aload_n 0, 1) := by decide +kernel
theorem dX5_refresh_42 : decode cX5_refresh 42 = .ok (.getfield 66, 3) := by decide +kernel
theorem dX5_refresh_45 : decode cX5_refresh 45 = .ok (.if_icmp .ge 18, 3) := by decide +kernel
theorem dX5_refresh_63 : decode cX5_refresh 63 = .ok (.return_, 1) := by decide +kernel
theorem dX11_kinOf_20 : decode cX11_kinOf 20 = .ok (.aload_n 0, 1) := by decide +kernel
theorem dX11_kinOf_21 : decode cX11_kinOf 21 = .ok (.getfield 39, 3) := by decide +kernel
theorem mw_351 : (Jvm.Cond.fieldLink "KindredBooks" (39 : Nat) "KindredBooks" "kins" "[LKindredBooks$Kin;") ∈ W0 := W0_of (List.mem_append_right _ (List.mem_of_getElem? (i := 351) (by decide +kernel))) rfl
theorem dX11_kinOf_24 : decode cX11_kinOf 24 = .ok (.iload_n 1, 1) := by decide +kernel
theorem dX11_kinOf_25 : decode cX11_kinOf 25 = .ok (.aaload, 1) := by decide +kernel
theorem dX11_kinOf_26 : decode cX11_kinOf 26 = .ok (.invokevirtual 397, 3) := by decide +kernel
theorem mw_867 : (Jvm.Cond.methodLink "KindredBooks" (397 : Nat) ({ cls := "KindredBooks$Kin", name := "refresh", desc := "()V" } : Jvm.MethodName)) ∈ W0 := W0_of (List.mem_append_right _ (List.mem_of_getElem? (i := 867) (by decide +kernel))) rfl
theorem mw_868 : (Jvm.Cond.instanceMethod ({ cls := "KindredBooks$Kin", name := "refresh", desc := "()V" } : Jvm.MethodName)) ∈ W0 := W0_of (List.mem_append_right _ (List.mem_of_getElem? (i := 868) (by decide +kernel))) rfl
theorem mw_869 : (Jvm.Cond.selects "KindredBooks$Kin" ({ cls := "KindredBooks$Kin", name := "refresh", desc := "()V" } : Jvm.MethodName) ({ cls := "KindredBooks$Kin", name := "refresh", desc := "()V" } : Jvm.MethodName)) ∈ W0 := W0_of (List.mem_append_right _ (List.mem_of_getElem? (i := 869) (by decide +kernel))) rfl
theorem dX11_kinOf_29 : decode cX11_kinOf 29 = .ok (.aload_n 0, 1) := by decide +kernel
theorem dX11_kinOf_30 : decode cX11_kinOf 30 = .ok (.getfield 39, 3) := by decide +kernel
theorem dX11_kinOf_33 : decode cX11_kinOf 33 = .ok (.iload_n 1, 1) := by decide +kernel
theorem dX11_kinOf_34 : decode cX11_kinOf 34 = .ok (.aaload, 1) := by decide +kernel
theorem dX11_kinOf_35 : decode cX11_kinOf 35 = .ok (.areturn, 1) := by decide +kernel
abbrev cX11_clearText : ByteArray := prog_1_method_3_code
def yX11_clearText : MethodName := ⟨"KindredBooks", "clearText", "()I"⟩
theorem mw_386 : (Jvm.Cond.code ({ cls := "KindredBooks", name := "clearText", desc := "()I" } : Jvm.MethodName) prog_1_method_3_code (2 : Nat) (Option.some Jvm.ClassFile.FieldType.int)) ∈ W0 := W0_of (List.mem_append_right _ (List.mem_of_getElem? (i := 386) (by decide +kernel))) rfl
theorem dX11_clearText_0 : decode cX11_clearText 0 = .ok (.aload_n 0, 1) := by decide +kernel
theorem dX11_clearText_1 : decode cX11_clearText 1 = .ok (.getfield 14, 3) := by decide +kernel
theorem mw_346 : (Jvm.Cond.fieldLink "KindredBooks" (14 : Nat) "KindredBooks" "text" "LKindredBooks$Text;") ∈ W0 := W0_of (List.mem_append_right _ (List.mem_of_getElem? (i := 346) (by decide +kernel))) rfl
theorem dX11_clearText_4 : decode cX11_clearText 4 = .ok (.getfield 82, 3) := by decide +kernel
theorem mn_59 : (Jvm.Cond.fieldLinkNest "KindredBooks" (82 : Nat) "KindredBooks$Text" "length" "I" "KindredBooks") ∈ N0 := N0_of (List.mem_append_right _ (List.mem_of_getElem? (i := 59) (by decide +kernel))) rfl
theorem dX11_clearText_7 : decode cX11_clearText 7 = .ok (.istore_n 1, 1) := by decide +kernel
theorem dX11_clearText_8 : decode cX11_clearText 8 = .ok (.aload_n 0, 1) := by decide +kernel
theorem dX11_clearText_9 : decode cX11_clearText 9 = .ok (.getfield 14, 3) := by decide +kernel
theorem dX11_clearText_12 : decode cX11_clearText 12 = .ok (.invokevirtual 95, 3) := by decide +kernel
theorem mw_387 : (Jvm.Cond.methodLink "KindredBooks" (95 : Nat) ({ cls := "KindredBooks$Text", name := "empty", desc := "()V" } : Jvm.MethodName)) ∈ W0 := W0_of (List.mem_append_right _ (List.mem_of_getElem? (i := 387) (by decide +kernel))) rfl
theorem mw_388 : (Jvm.Cond.instanceMethod ({ cls := "KindredBooks$Text", name := "empty", desc := "()V" } : Jvm.MethodName)) ∈ W0 := W0_of (List.mem_append_right _ (List.mem_of_getElem? (i := 388) (by decide +kernel))) rfl
theorem mw_389 : (Jvm.Cond.selects "KindredBooks$Text" ({ cls := "KindredBooks$Text", name := "empty", desc := "()V" } : Jvm.MethodName) ({ cls := "KindredBooks$Text", name := "empty", desc := "()V" } : Jvm.MethodName)) ∈ W0 := W0_of (List.mem_append_right _ (List.mem_of_getElem? (i := 389) (by decide +kernel))) rfl
theorem mw_2 : (Jvm.Cond.initialized "KindredBooks$Text") ∈ W0 := W0_of (List.mem_append_right _ (List.mem_of_getElem? (i := 2) (by decide +kernel))) rfl
theorem dX11_clearText_15 : decode cX11_clearText 15 = .ok (.iload_n 1, 1) := by decide +kernel
theorem dX11_clearText_16 : decode cX11_clearText 16 = .ok (.ireturn, 1) := by decide +kernel
abbrev cX11_changes : ByteArray := prog_1_method_14_code
def yX11_changes : MethodName := ⟨"KindredBooks", "changes", "()I"⟩
theorem mw_394 : (Jvm.Cond.code ({ cls := "KindredBooks", name := "changes", desc := "()I" } : Jvm.MethodName) prog_1_method_14_code (1 : Nat) (Option.some Jvm.ClassFile.FieldType.int)) ∈ W0 := W0_of (List.mem_append_right _ (List.mem_of_getElem? (i := 394) (by decide +kernel))) rfl
theorem dX11_changes_0 : decode cX11_changes 0 = .ok (.aload_n 0, 1) := by decide +kernel
theorem dX11_changes_1 : decode cX11_changes 1 = .ok (.getfield 27, 3) := by decide +kernel
theorem dX11_changes_4 : decode cX11_changes 4 = .ok (.getfield 103, 3) := by decide +kernel
theorem dX11_changes_7 : decode cX11_changes 7 = .ok (.ireturn, 1) := by decide +kernel
abbrev cX11_entry : ByteArray := prog_1_method_5_code
def yX11_entry : MethodName := ⟨"KindredBooks", "entry", "(I)I"⟩
theorem mw_602 : (Jvm.Cond.code ({ cls := "KindredBooks", name := "entry", desc := "(I)I" } : Jvm.MethodName) prog_1_method_5_code (3 : Nat) (Option.some Jvm.ClassFile.FieldType.int)) ∈ W0 := W0_of (List.mem_append_right _ (List.mem_of_getElem? (i := 602) (by decide +kernel))) rfl
theorem dX11_entry_0 : decode cX11_entry 0 = .ok (.aload_n 0, 1) := by decide +kernel
theorem dX11_entry_1 : decode cX11_entry 1 = .ok (.iload_n 1, 1) := by decide +kernel
theorem dX11_entry_2 : decode cX11_entry 2 = .ok (.invokevirtual 124, 3) := by decide +kernel
theorem mw_603 : (Jvm.Cond.methodLink "KindredBooks" (124 : Nat) ({ cls := "KindredBooks", name := "bookOf", desc := "(I)LKindredBooks$Book;" } : Jvm.MethodName)) ∈ W0 := W0_of (List.mem_append_right _ (List.mem_of_getElem? (i := 603) (by decide +kernel))) rfl
theorem mw_605 : (Jvm.Cond.instanceMethod ({ cls := "KindredBooks", name := "bookOf", desc := "(I)LKindredBooks$Book;" } : Jvm.MethodName)) ∈ W0 := W0_of (List.mem_append_right _ (List.mem_of_getElem? (i := 605) (by decide +kernel))) rfl
theorem ms_3 : Cond.selects "KindredBooks" (⟨"KindredBooks", "bookOf", "(I)LKindredBooks$Book;"⟩ : MethodName) (⟨"KindredBooks", "bookOf", "(I)LKindredBooks$Book;"⟩ : MethodName) ∈ W0 := W0_of (List.mem_append_left _ (List.mem_of_getElem? (i := 3) (by decide +kernel))) rfl
theorem mw_1 : (Jvm.Cond.initialized "KindredBooks") ∈ W0 := W0_of (List.mem_append_right _ (List.mem_of_getElem? (i := 1) (by decide +kernel))) rfl
abbrev cX11_undo : ByteArray := prog_1_method_12_code
def yX11_undo : MethodName := ⟨"KindredBooks", "undo", "(I)I"⟩
theorem mw_805 : (Jvm.Cond.code ({ cls := "KindredBooks", name := "undo", desc := "(I)I" } : Jvm.MethodName) prog_1_method_12_code (4 : Nat) (Option.some Jvm.ClassFile.FieldType.int)) ∈ W0 := W0_of (List.mem_append_right _ (List.mem_of_getElem? (i := 805) (by decide +kernel))) rfl
theorem dX11_undo_0 : decode cX11_undo 0 = .ok (.aload_n 0, 1) := by decide +kernel
theorem dX11_undo_1 : decode cX11_undo 1 = .ok (.iload_n 1, 1) := by decide +kernel
theorem dX11_undo_2 : decode cX11_undo 2 = .ok (.invokevirtual 124, 3) := by decide +kernel
abbrev cX11_known : ByteArray := prog_1_method_16_code
def yX11_known : MethodName := ⟨"KindredBooks", "known", "(I)I"⟩
theorem mw_840 : (Jvm.Cond.code ({ cls := "KindredBooks", name := "known", desc := "(I)I" } : Jvm.MethodName) prog_1_method_16_code (2 : Nat) (Option.some Jvm.ClassFile.FieldType.int)) ∈ W0 := W0_of (List.mem_append_right _ (List.mem_of_getElem? (i := 840) (by decide +kernel))) rfl
theorem dX11_known_0 : decode cX11_known 0 = .ok (.aload_n 0, 1) := by decide +kernel
theorem dX11_known_1 : decode cX11_known 1 = .ok (.iload_n 1, 1) := by decide +kernel
theorem dX11_known_2 : decode cX11_known 2 = .ok (.invokevirtual 124, 3) := by decide +kernel
abbrev cX11_meanLines : ByteArray := prog_1_method_47_code
def yX11_meanLines : MethodName := ⟨"KindredBooks", "meanLines", "(I)D"⟩
theorem mw_1429 : (Jvm.Cond.code ({ cls := "KindredBooks", name := "meanLines", desc := "(I)D" } : Jvm.MethodName) prog_1_method_47_code (4 : Nat) (Option.some Jvm.ClassFile.FieldType.double)) ∈ W0 := W0_of (List.mem_append_right _ (List.mem_of_getElem? (i := 1429) (by decide +kernel))) rfl
theorem dX11_meanLines_0 : decode cX11_meanLines 0 = .ok (.aload_n 0, 1) := by decide +kernel
theorem dX11_meanLines_1 : decode cX11_meanLines 1 = .ok (.iload_n 1, 1) := by decide +kernel
theorem dX11_meanLines_2 : decode cX11_meanLines 2 = .ok (.invokevirtual 124, 3) := by decide +kernel
abbrev cX11_countShare : ByteArray := prog_1_method_48_code
def yX11_countShare : MethodName := ⟨"KindredBooks", "countShare", "(I)F"⟩
theorem mw_1440 : (Jvm.Cond.code ({ cls := "KindredBooks", name := "countShare", desc := "(I)F" } : Jvm.MethodName) prog_1_method_48_code (3 : Nat) (Option.some Jvm.ClassFile.FieldType.float)) ∈ W0 := W0_of (List.mem_append_right _ (List.mem_of_getElem? (i := 1440) (by decide +kernel))) rfl
theorem dX11_countShare_0 : decode cX11_countShare 0 = .ok (.aload_n 0, 1) := by decide +kernel
theorem dX11_countShare_1 : decode cX11_countShare 1 = .ok (.iload_n 1, 1) := by decide +kernel
theorem dX11_countShare_2 : decode cX11_countShare 2 = .ok (.invokevirtual 124, 3) := by decide +kernel
abbrev cX11_readIn : ByteArray := prog_1_method_43_code
def yX11_readIn : MethodName := ⟨"KindredBooks", "readIn", "(I)I"⟩
theorem mw_1318 : (Jvm.Cond.code ({ cls := "KindredBooks", name := "readIn", desc := "(I)I" } : Jvm.MethodName) prog_1_method_43_code (6 : Nat) (Option.some Jvm.ClassFile.FieldType.int)) ∈ W0 := W0_of (List.mem_append_right _ (List.mem_of_getElem? (i := 1318) (by decide +kernel))) rfl
theorem dX11_readIn_0 : decode cX11_readIn 0 = .ok (.aload_n 0, 1) := by decide +kernel
theorem dX11_readIn_1 : decode cX11_readIn 1 = .ok (.iload_n 1, 1) := by decide +kernel
theorem dX11_readIn_2 : decode cX11_readIn 2 = .ok (.invokevirtual 124, 3) := by decide +kernel
abbrev cX11_groups : ByteArray := prog_1_method_20_code
def yX11_groups : MethodName := ⟨"KindredBooks", "groups", "(I)I"⟩
theorem mw_973 : (Jvm.Cond.code ({ cls := "KindredBooks", name := "groups", desc := "(I)I" } : Jvm.MethodName) prog_1_method_20_code (2 : Nat) (Option.some Jvm.ClassFile.FieldType.int)) ∈ W0 := W0_of (List.mem_append_right _ (List.mem_of_getElem? (i := 973) (by decide +kernel))) rfl
theorem dX11_groups_0 : decode cX11_groups 0 = .ok (.aload_n 0, 1) := by decide +kernel
theorem dX11_groups_1 : decode cX11_groups 1 = .ok (.iload_n 1, 1) := by decide +kernel
theorem dX11_groups_2 : decode cX11_groups 2 = .ok (.invokevirtual 204, 3) := by decide +kernel
theorem mw_863 : (Jvm.Cond.methodLink "KindredBooks" (204 : Nat) ({ cls := "KindredBooks", name := "kinOf", desc := "(I)LKindredBooks$Kin;" } : Jvm.MethodName)) ∈ W0 := W0_of (List.mem_append_right _ (List.mem_of_getElem? (i := 863) (by decide +kernel))) rfl
theorem mw_865 : (Jvm.Cond.instanceMethod ({ cls := "KindredBooks", name := "kinOf", desc := "(I)LKindredBooks$Kin;" } : Jvm.MethodName)) ∈ W0 := W0_of (List.mem_append_right _ (List.mem_of_getElem? (i := 865) (by decide +kernel))) rfl
theorem ms_17 : Cond.selects "KindredBooks" (⟨"KindredBooks", "kinOf", "(I)LKindredBooks$Kin;"⟩ : MethodName) (⟨"KindredBooks", "kinOf", "(I)LKindredBooks$Kin;"⟩ : MethodName) ∈ W0 := W0_of (List.mem_append_left _ (List.mem_of_getElem? (i := 17) (by decide +kernel))) rfl
abbrev cX11_looked : ByteArray := prog_1_method_34_code
def yX11_looked : MethodName := ⟨"KindredBooks", "looked", "(I)I"⟩
theorem mw_1213 : (Jvm.Cond.code ({ cls := "KindredBooks", name := "looked", desc := "(I)I" } : Jvm.MethodName) prog_1_method_34_code (6 : Nat) (Option.some Jvm.ClassFile.FieldType.int)) ∈ W0 := W0_of (List.mem_append_right _ (List.mem_of_getElem? (i := 1213) (by decide +kernel))) rfl
theorem dX11_looked_0 : decode cX11_looked 0 = .ok (.aload_n 0, 1) := by decide +kernel
theorem dX11_looked_1 : decode cX11_looked 1 = .ok (.iload_n 1, 1) := by decide +kernel
theorem dX11_looked_2 : decode cX11_looked 2 = .ok (.invokevirtual 204, 3) := by decide +kernel
abbrev cX11_digest : ByteArray := prog_1_method_45_code
def yX11_digest : MethodName := ⟨"KindredBooks", "digest", "(I)J"⟩
theorem mw_1386 : (Jvm.Cond.code ({ cls := "KindredBooks", name := "digest", desc := "(I)J" } : Jvm.MethodName) prog_1_method_45_code (8 : Nat) (Option.some Jvm.ClassFile.FieldType.long)) ∈ W0 := W0_of (List.mem_append_right _ (List.mem_of_getElem? (i := 1386) (by decide +kernel))) rfl
theorem dX11_digest_0 : decode cX11_digest 0 = .ok (.aload_n 0, 1) := by decide +kernel
theorem dX11_digest_1 : decode cX11_digest 1 = .ok (.iload_n 1, 1) := by decide +kernel
theorem dX11_digest_2 : decode cX11_digest 2 = .ok (.invokevirtual 204, 3) := by decide +kernel
abbrev cX11_errors : ByteArray := prog_1_method_46_code
def yX11_errors : MethodName := ⟨"KindredBooks", "errors", "(I)I"⟩
theorem mw_1400 : (Jvm.Cond.code ({ cls := "KindredBooks", name := "errors", desc := "(I)I" } : Jvm.MethodName) prog_1_method_46_code (4 : Nat) (Option.some Jvm.ClassFile.FieldType.int)) ∈ W0 := W0_of (List.mem_append_right _ (List.mem_of_getElem? (i := 1400) (by decide +kernel))) rfl
theorem dX11_errors_0 : decode cX11_errors 0 = .ok (.aload_n 0, 1) := by decide +kernel
theorem dX11_errors_1 : decode cX11_errors 1 = .ok (.iload_n 1, 1) := by decide +kernel
theorem dX11_errors_2 : decode cX11_errors 2 = .ok (.invokevirtual 204, 3) := by decide +kernel
abbrev cX11_gone : ByteArray := prog_1_method_10_code
def yX11_gone : MethodName := ⟨"KindredBooks", "gone", "(II)I"⟩
theorem mw_781 : (Jvm.Cond.code ({ cls := "KindredBooks", name := "gone", desc := "(II)I" } : Jvm.MethodName) prog_1_method_10_code (4 : Nat) (Option.some Jvm.ClassFile.FieldType.int)) ∈ W0 := W0_of (List.mem_append_right _ (List.mem_of_getElem? (i := 781) (by decide +kernel))) rfl
theorem dX11_gone_0 : decode cX11_gone 0 = .ok (.aload_n 0, 1) := by decide +kernel
theorem dX11_gone_1 : decode cX11_gone 1 = .ok (.iload_n 1, 1) := by decide +kernel
theorem dX11_gone_2 : decode cX11_gone 2 = .ok (.invokevirtual 124, 3) := by decide +kernel
abbrev cX11_back : ByteArray := prog_1_method_11_code
def yX11_back : MethodName := ⟨"KindredBooks", "back", "(II)I"⟩
theorem mw_788 : (Jvm.Cond.code ({ cls := "KindredBooks", name := "back", desc := "(II)I" } : Jvm.MethodName) prog_1_method_11_code (4 : Nat) (Option.some Jvm.ClassFile.FieldType.int)) ∈ W0 := W0_of (List.mem_append_right _ (List.mem_of_getElem? (i := 788) (by decide +kernel))) rfl
theorem dX11_back_0 : decode cX11_back 0 = .ok (.aload_n 0, 1) := by decide +kernel
theorem dX11_back_1 : decode cX11_back 1 = .ok (.iload_n 1, 1) := by decide +kernel
theorem dX11_back_2 : decode cX11_back 2 = .ok (.invokevirtual 124, 3) := by decide +kernel
abbrev cX11_hear : ByteArray := prog_1_method_13_code
def yX11_hear : MethodName := ⟨"KindredBooks", "hear", "(II)I"⟩
theorem mw_817 : (Jvm.Cond.code ({ cls := "KindredBooks", name := "hear", desc := "(II)I" } : Jvm.MethodName) prog_1_method_13_code (4 : Nat) (Option.some Jvm.ClassFile.FieldType.int)) ∈ W0 := W0_of (List.mem_append_right _ (List.mem_of_getElem? (i := 817) (by decide +kernel))) rfl
theorem dX11_hear_0 : decode cX11_hear 0 = .ok (.aload_n 0, 1) := by decide +kernel
theorem dX11_hear_1 : decode cX11_hear 1 = .ok (.iload_n 1, 1) := by decide +kernel
theorem dX11_hear_2 : decode cX11_hear 2 = .ok (.invokevirtual 124, 3) := by decide +kernel
abbrev cX11_agree : ByteArray := prog_1_method_44_code
def yX11_agree : MethodName := ⟨"KindredBooks", "agree", "(II)Z"⟩
theorem mw_1375 : (Jvm.Cond.code ({ cls := "KindredBooks", name := "agree", desc := "(II)Z" } : Jvm.MethodName) prog_1_method_44_code (4 : Nat) (Option.some Jvm.ClassFile.FieldType.boolean)) ∈ W0 := W0_of (List.mem_append_right _ (List.mem_of_getElem? (i := 1375) (by decide +kernel))) rfl
theorem dX11_agree_0 : decode cX11_agree 0 = .ok (.aload_n 0, 1) := by decide +kernel
theorem dX11_agree_1 : decode cX11_agree 1 = .ok (.iload_n 1, 1) := by decide +kernel
theorem dX11_agree_2 : decode cX11_agree 2 = .ok (.invokevirtual 124, 3) := by decide +kernel
abbrev cX11_counts : ByteArray := prog_1_method_17_code
def yX11_counts : MethodName := ⟨"KindredBooks", "counts", "(II)Z"⟩
theorem mw_847 : (Jvm.Cond.code ({ cls := "KindredBooks", name := "counts", desc := "(II)Z" } : Jvm.MethodName) prog_1_method_17_code (4 : Nat) (Option.some Jvm.ClassFile.FieldType.boolean)) ∈ W0 := W0_of (List.mem_append_right _ (List.mem_of_getElem? (i := 847) (by decide +kernel))) rfl
theorem dX11_counts_0 : decode cX11_counts 0 = .ok (.aload_n 0, 1) := by decide +kernel
theorem dX11_counts_1 : decode cX11_counts 1 = .ok (.iload_n 1, 1) := by decide +kernel
theorem dX11_counts_2 : decode cX11_counts 2 = .ok (.invokevirtual 124, 3) := by decide +kernel
abbrev cX11_stands : ByteArray := prog_1_method_18_code
def yX11_stands : MethodName := ⟨"KindredBooks", "stands", "(II)Z"⟩
theorem mw_854 : (Jvm.Cond.code ({ cls := "KindredBooks", name := "stands", desc := "(II)Z" } : Jvm.MethodName) prog_1_method_18_code (4 : Nat) (Option.some Jvm.ClassFile.FieldType.boolean)) ∈ W0 := W0_of (List.mem_append_right _ (List.mem_of_getElem? (i := 854) (by decide +kernel))) rfl
theorem dX11_stands_0 : decode cX11_stands 0 = .ok (.aload_n 0, 1) := by decide +kernel
theorem dX11_stands_1 : decode cX11_stands 1 = .ok (.iload_n 1, 1) := by decide +kernel
theorem dX11_stands_2 : decode cX11_stands 2 = .ok (.invokevirtual 124, 3) := by decide +kernel
abbrev cX11_holds : ByteArray := prog_1_method_19_code
def yX11_holds : MethodName := ⟨"KindredBooks", "holds", "(II)Z"⟩
theorem mw_862 : (Jvm.Cond.code ({ cls := "KindredBooks", name := "holds", desc := "(II)Z" } : Jvm.MethodName) prog_1_method_19_code (4 : Nat) (Option.some Jvm.ClassFile.FieldType.boolean)) ∈ W0 := W0_of (List.mem_append_right _ (List.mem_of_getElem? (i := 862) (by decide +kernel))) rfl
theorem dX11_holds_0 : decode cX11_holds 0 = .ok (.aload_n 0, 1) := by decide +kernel
theorem dX11_holds_1 : decode cX11_holds 1 = .ok (.iload_n 1, 1) := by decide +kernel
theorem dX11_holds_2 : decode cX11_holds 2 = .ok (.invokevirtual 204, 3) := by decide +kernel
abbrev cX11_groupAt : ByteArray := prog_1_method_21_code
def yX11_groupAt : MethodName := ⟨"KindredBooks", "groupAt", "(II)I"⟩
theorem mw_980 : (Jvm.Cond.code ({ cls := "KindredBooks", name := "groupAt", desc := "(II)I" } : Jvm.MethodName) prog_1_method_21_code (4 : Nat) (Option.some Jvm.ClassFile.FieldType.int)) ∈ W0 := W0_of (List.mem_append_right _ (List.mem_of_getElem? (i := 980) (by decide +kernel))) rfl
theorem dX11_groupAt_0 : decode cX11_groupAt 0 = .ok (.aload_n 0, 1) := by decide +kernel
theorem dX11_groupAt_1 : decode cX11_groupAt 1 = .ok (.iload_n 1, 1) := by decide +kernel
theorem dX11_groupAt_2 : decode cX11_groupAt 2 = .ok (.invokevirtual 204, 3) := by decide +kernel
abbrev cX11_groupOf : ByteArray := prog_1_method_22_code
def yX11_groupOf : MethodName := ⟨"KindredBooks", "groupOf", "(II)I"⟩
theorem mw_989 : (Jvm.Cond.code ({ cls := "KindredBooks", name := "groupOf", desc := "(II)I" } : Jvm.MethodName) prog_1_method_22_code (4 : Nat) (Option.some Jvm.ClassFile.FieldType.int)) ∈ W0 := W0_of (List.mem_append_right _ (List.mem_of_getElem? (i := 989) (by decide +kernel))) rfl
theorem dX11_groupOf_0 : decode cX11_groupOf 0 = .ok (.aload_n 0, 1) := by decide +kernel
theorem dX11_groupOf_1 : decode cX11_groupOf 1 = .ok (.iload_n 1, 1) := by decide +kernel
theorem dX11_groupOf_2 : decode cX11_groupOf 2 = .ok (.invokevirtual 204, 3) := by decide +kernel
abbrev cX11_sizeOf : ByteArray := prog_1_method_23_code
def yX11_sizeOf : MethodName := ⟨"KindredBooks", "sizeOf", "(II)I"⟩
theorem mw_997 : (Jvm.Cond.code ({ cls := "KindredBooks", name := "sizeOf", desc := "(II)I" } : Jvm.MethodName) prog_1_method_23_code (4 : Nat) (Option.some Jvm.ClassFile.FieldType.int)) ∈ W0 := W0_of (List.mem_append_right _ (List.mem_of_getElem? (i := 997) (by decide +kernel))) rfl
theorem dX11_sizeOf_0 : decode cX11_sizeOf 0 = .ok (.aload_n 0, 1) := by decide +kernel
theorem dX11_sizeOf_1 : decode cX11_sizeOf 1 = .ok (.iload_n 1, 1) := by decide +kernel
theorem dX11_sizeOf_2 : decode cX11_sizeOf 2 = .ok (.invokevirtual 204, 3) := by decide +kernel
abbrev cX11_path : ByteArray := prog_1_method_24_code
def yX11_path : MethodName := ⟨"KindredBooks", "path", "(IIII)I"⟩
theorem mw_1008 : (Jvm.Cond.code ({ cls := "KindredBooks", name := "path", desc := "(IIII)I" } : Jvm.MethodName) prog_1_method_24_code (7 : Nat) (Option.some Jvm.ClassFile.FieldType.int)) ∈ W0 := W0_of (List.mem_append_right _ (List.mem_of_getElem? (i := 1008) (by decide +kernel))) rfl
theorem dX11_path_0 : decode cX11_path 0 = .ok (.aload_n 0, 1) := by decide +kernel
theorem dX11_path_1 : decode cX11_path 1 = .ok (.iload_n 1, 1) := by decide +kernel
theorem dX11_path_2 : decode cX11_path 2 = .ok (.invokevirtual 204, 3) := by decide +kernel
abbrev cX11_forbids : ByteArray := prog_1_method_25_code
def yX11_forbids : MethodName := ⟨"KindredBooks", "forbids", "(III)I"⟩
theorem mw_1029 : (Jvm.Cond.code ({ cls := "KindredBooks", name := "forbids", desc := "(III)I" } : Jvm.MethodName) prog_1_method_25_code (5 : Nat) (Option.some Jvm.ClassFile.FieldType.int)) ∈ W0 := W0_of (List.mem_append_right _ (List.mem_of_getElem? (i := 1029) (by decide +kernel))) rfl
theorem dX11_forbids_0 : decode cX11_forbids 0 = .ok (.aload_n 0, 1) := by decide +kernel
theorem dX11_forbids_1 : decode cX11_forbids 1 = .ok (.iload_n 1, 1) := by decide +kernel
theorem dX11_forbids_2 : decode cX11_forbids 2 = .ok (.invokevirtual 204, 3) := by decide +kernel
abbrev cX11_shown : ByteArray := prog_1_method_26_code
def yX11_shown : MethodName := ⟨"KindredBooks", "shown", "(III)I"⟩
theorem mw_1037 : (Jvm.Cond.code ({ cls := "KindredBooks", name := "shown", desc := "(III)I" } : Jvm.MethodName) prog_1_method_26_code (5 : Nat) (Option.some Jvm.ClassFile.FieldType.int)) ∈ W0 := W0_of (List.mem_append_right _ (List.mem_of_getElem? (i := 1037) (by decide +kernel))) rfl
theorem dX11_shown_0 : decode cX11_shown 0 = .ok (.aload_n 0, 1) := by decide +kernel
theorem dX11_shown_1 : decode cX11_shown 1 = .ok (.iload_n 1, 1) := by decide +kernel
theorem dX11_shown_2 : decode cX11_shown 2 = .ok (.invokevirtual 204, 3) := by decide +kernel
abbrev cX11_shownAt : ByteArray := prog_1_method_27_code
def yX11_shownAt : MethodName := ⟨"KindredBooks", "shownAt", "(IIII)I"⟩
theorem mw_1048 : (Jvm.Cond.code ({ cls := "KindredBooks", name := "shownAt", desc := "(IIII)I" } : Jvm.MethodName) prog_1_method_27_code (7 : Nat) (Option.some Jvm.ClassFile.FieldType.int)) ∈ W0 := W0_of (List.mem_append_right _ (List.mem_of_getElem? (i := 1048) (by decide +kernel))) rfl
theorem dX11_shownAt_0 : decode cX11_shownAt 0 = .ok (.aload_n 0, 1) := by decide +kernel
theorem dX11_shownAt_1 : decode cX11_shownAt 1 = .ok (.iload_n 1, 1) := by decide +kernel
theorem dX11_shownAt_2 : decode cX11_shownAt 2 = .ok (.invokevirtual 204, 3) := by decide +kernel
abbrev cX11_values : ByteArray := prog_1_method_28_code
def yX11_values : MethodName := ⟨"KindredBooks", "values", "(III)I"⟩
theorem mw_1060 : (Jvm.Cond.code ({ cls := "KindredBooks", name := "values", desc := "(III)I" } : Jvm.MethodName) prog_1_method_28_code (5 : Nat) (Option.some Jvm.ClassFile.FieldType.int)) ∈ W0 := W0_of (List.mem_append_right _ (List.mem_of_getElem? (i := 1060) (by decide +kernel))) rfl
theorem dX11_values_0 : decode cX11_values 0 = .ok (.aload_n 0, 1) := by decide +kernel
theorem dX11_values_1 : decode cX11_values 1 = .ok (.iload_n 1, 1) := by decide +kernel
theorem dX11_values_2 : decode cX11_values 2 = .ok (.invokevirtual 204, 3) := by decide +kernel
abbrev cX11_likeness : ByteArray := prog_1_method_31_code
def yX11_likeness : MethodName := ⟨"KindredBooks", "likeness", "(III)I"⟩
theorem mw_1093 : (Jvm.Cond.code ({ cls := "KindredBooks", name := "likeness", desc := "(III)I" } : Jvm.MethodName) prog_1_method_31_code (7 : Nat) (Option.some Jvm.ClassFile.FieldType.int)) ∈ W0 := W0_of (List.mem_append_right _ (List.mem_of_getElem? (i := 1093) (by decide +kernel))) rfl
theorem dX11_likeness_0 : decode cX11_likeness 0 = .ok (.aload_n 0, 1) := by decide +kernel
theorem dX11_likeness_1 : decode cX11_likeness 1 = .ok (.iload_n 1, 1) := by decide +kernel
theorem dX11_likeness_2 : decode cX11_likeness 2 = .ok (.invokevirtual 204, 3) := by decide +kernel
abbrev cX11_suggest : ByteArray := prog_1_method_32_code
def yX11_suggest : MethodName := ⟨"KindredBooks", "suggest", "(II)I"⟩
theorem mw_1143 : (Jvm.Cond.code ({ cls := "KindredBooks", name := "suggest", desc := "(II)I" } : Jvm.MethodName) prog_1_method_32_code (6 : Nat) (Option.some Jvm.ClassFile.FieldType.int)) ∈ W0 := W0_of (List.mem_append_right _ (List.mem_of_getElem? (i := 1143) (by decide +kernel))) rfl
theorem dX11_suggest_0 : decode cX11_suggest 0 = .ok (.aload_n 0, 1) := by decide +kernel
theorem dX11_suggest_1 : decode cX11_suggest 1 = .ok (.iload_n 1, 1) := by decide +kernel
theorem dX11_suggest_2 : decode cX11_suggest 2 = .ok (.invokevirtual 204, 3) := by decide +kernel
abbrev cX11_search : ByteArray := prog_1_method_35_code
def yX11_search : MethodName := ⟨"KindredBooks", "search", "(II)I"⟩
theorem mw_1224 : (Jvm.Cond.code ({ cls := "KindredBooks", name := "search", desc := "(II)I" } : Jvm.MethodName) prog_1_method_35_code (7 : Nat) (Option.some Jvm.ClassFile.FieldType.int)) ∈ W0 := W0_of (List.mem_append_right _ (List.mem_of_getElem? (i := 1224) (by decide +kernel))) rfl
theorem dX11_search_0 : decode cX11_search 0 = .ok (.aload_n 0, 1) := by decide +kernel
theorem dX11_search_1 : decode cX11_search 1 = .ok (.iload_n 1, 1) := by decide +kernel
theorem dX11_search_2 : decode cX11_search 2 = .ok (.invokevirtual 204, 3) := by decide +kernel
abbrev cX11_members : ByteArray := prog_1_method_37_code
def yX11_members : MethodName := ⟨"KindredBooks", "members", "(II)I"⟩
theorem mw_1266 : (Jvm.Cond.code ({ cls := "KindredBooks", name := "members", desc := "(II)I" } : Jvm.MethodName) prog_1_method_37_code (4 : Nat) (Option.some Jvm.ClassFile.FieldType.int)) ∈ W0 := W0_of (List.mem_append_right _ (List.mem_of_getElem? (i := 1266) (by decide +kernel))) rfl
theorem dX11_members_0 : decode cX11_members 0 = .ok (.aload_n 0, 1) := by decide +kernel
theorem dX11_members_1 : decode cX11_members 1 = .ok (.iload_n 1, 1) := by decide +kernel
theorem dX11_members_2 : decode cX11_members 2 = .ok (.invokevirtual 204, 3) := by decide +kernel
abbrev cX11_memberAt : ByteArray := prog_1_method_38_code
def yX11_memberAt : MethodName := ⟨"KindredBooks", "memberAt", "(III)I"⟩
theorem mw_1281 : (Jvm.Cond.code ({ cls := "KindredBooks", name := "memberAt", desc := "(III)I" } : Jvm.MethodName) prog_1_method_38_code (6 : Nat) (Option.some Jvm.ClassFile.FieldType.int)) ∈ W0 := W0_of (List.mem_append_right _ (List.mem_of_getElem? (i := 1281) (by decide +kernel))) rfl
theorem dX11_memberAt_0 : decode cX11_memberAt 0 = .ok (.aload_n 0, 1) := by decide +kernel
theorem dX11_memberAt_1 : decode cX11_memberAt 1 = .ok (.iload_n 1, 1) := by decide +kernel
theorem dX11_memberAt_2 : decode cX11_memberAt 2 = .ok (.invokevirtual 204, 3) := by decide +kernel
abbrev cX11_yearly : ByteArray := prog_1_method_39_code
def yX11_yearly : MethodName := ⟨"KindredBooks", "yearly", "(IIIII)I"⟩
theorem mw_1292 : (Jvm.Cond.code ({ cls := "KindredBooks", name := "yearly", desc := "(IIIII)I" } : Jvm.MethodName) prog_1_method_39_code (11 : Nat) (Option.some Jvm.ClassFile.FieldType.int)) ∈ W0 := W0_of (List.mem_append_right _ (List.mem_of_getElem? (i := 1292) (by decide +kernel))) rfl
theorem dX11_yearly_0 : decode cX11_yearly 0 = .ok (.aload_n 0, 1) := by decide +kernel
theorem dX11_yearly_1 : decode cX11_yearly 1 = .ok (.iload_n 1, 1) := by decide +kernel
theorem dX11_yearly_2 : decode cX11_yearly 2 = .ok (.invokevirtual 204, 3) := by decide +kernel
abbrev cX11_line : ByteArray := prog_1_method_6_code
def yX11_line : MethodName := ⟨"KindredBooks", "line", "(III)I"⟩
theorem mw_689 : (Jvm.Cond.code ({ cls := "KindredBooks", name := "line", desc := "(III)I" } : Jvm.MethodName) prog_1_method_6_code (6 : Nat) (Option.some Jvm.ClassFile.FieldType.int)) ∈ W0 := W0_of (List.mem_append_right _ (List.mem_of_getElem? (i := 689) (by decide +kernel))) rfl
theorem dX11_line_0 : decode cX11_line 0 = .ok (.aload_n 0, 1) := by decide +kernel
theorem dX11_line_1 : decode cX11_line 1 = .ok (.iload_n 1, 1) := by decide +kernel
theorem dX11_line_2 : decode cX11_line 2 = .ok (.invokevirtual 124, 3) := by decide +kernel
abbrev cX11_makeOfTwo : ByteArray := prog_1_method_56_code
def yX11_makeOfTwo : MethodName := ⟨"KindredBooks", "makeOfTwo", "(IIII)I"⟩
theorem mw_759 : (Jvm.Cond.code ({ cls := "KindredBooks", name := "makeOfTwo", desc := "(IIII)I" } : Jvm.MethodName) prog_1_method_56_code (6 : Nat) (Option.some Jvm.ClassFile.FieldType.int)) ∈ W0 := W0_of (List.mem_append_right _ (List.mem_of_getElem? (i := 759) (by decide +kernel))) rfl
theorem dX11_makeOfTwo_0 : decode cX11_makeOfTwo 0 = .ok (.aload_n 0, 1) := by decide +kernel
theorem dX11_makeOfTwo_1 : decode cX11_makeOfTwo 1 = .ok (.iload_n 1, 1) := by decide +kernel
theorem dX11_makeOfTwo_2 : decode cX11_makeOfTwo 2 = .ok (.invokevirtual 124, 3) := by decide +kernel
theorem dX11_makeOfTwo_5 : decode cX11_makeOfTwo 5 = .ok (.astore 5, 2) := by decide +kernel
theorem dX11_makeOfTwo_7 : decode cX11_makeOfTwo 7 = .ok (.iload_n 3, 1) := by decide +kernel
theorem dX11_makeOfTwo_8 : decode cX11_makeOfTwo 8 = .ok (.iload 4, 2) := by decide +kernel
theorem dX11_makeOfTwo_10 : decode cX11_makeOfTwo 10 = .ok (.if_icmp .ne 14, 3) := by decide +kernel
theorem dX11_makeOfTwo_13 : decode cX11_makeOfTwo 13 = .ok (.new 98, 3) := by decide +kernel
theorem dX11_makeOfTwo_16 : decode cX11_makeOfTwo 16 = .ok (.dup, 1) := by decide +kernel
theorem dX11_makeOfTwo_17 : decode cX11_makeOfTwo 17 = .ok (.ldc_w 416, 3) := by decide +kernel
theorem dX11_makeOfTwo_20 : decode cX11_makeOfTwo 20 = .ok (.invokespecial 102, 3) := by decide +kernel
theorem dX11_makeOfTwo_23 : decode cX11_makeOfTwo 23 = .ok (.athrow, 1) := by decide +kernel
theorem dX11_makeOfTwo_24 : decode cX11_makeOfTwo 24 = .ok (.aload_n 0, 1) := by decide +kernel
theorem dX11_makeOfTwo_25 : decode cX11_makeOfTwo 25 = .ok (.aload 5, 2) := by decide +kernel
theorem dX11_makeOfTwo_27 : decode cX11_makeOfTwo 27 = .ok (.iload_n 3, 1) := by decide +kernel
theorem dX11_makeOfTwo_28 : decode cX11_makeOfTwo 28 = .ok (.invokevirtual 141, 3) := by decide +kernel
theorem mw_695 : (Jvm.Cond.methodLink "KindredBooks" (141 : Nat) ({ cls := "KindredBooks", name := "checkLive", desc := "(LKindredBooks$Book;I)V" } : Jvm.MethodName)) ∈ W0 := W0_of (List.mem_append_right _ (List.mem_of_getElem? (i := 695) (by decide +kernel))) rfl
theorem mw_697 : (Jvm.Cond.instanceMethod ({ cls := "KindredBooks", name := "checkLive", desc := "(LKindredBooks$Book;I)V" } : Jvm.MethodName)) ∈ W0 := W0_of (List.mem_append_right _ (List.mem_of_getElem? (i := 697) (by decide +kernel))) rfl
theorem ms_12 : Cond.selects "KindredBooks" (⟨"KindredBooks", "checkLive", "(LKindredBooks$Book;I)V"⟩ : MethodName) (⟨"KindredBooks", "checkLive", "(LKindredBooks$Book;I)V"⟩ : MethodName) ∈ W0 := W0_of (List.mem_append_left _ (List.mem_of_getElem? (i := 12) (by decide +kernel))) rfl
abbrev cX11_join : ByteArray := prog_1_method_7_code
def yX11_join : MethodName := ⟨"KindredBooks", "join", "(III)I"⟩
theorem mw_755 : (Jvm.Cond.code ({ cls := "KindredBooks", name := "join", desc := "(III)I" } : Jvm.MethodName) prog_1_method_7_code (4 : Nat) (Option.some Jvm.ClassFile.FieldType.int)) ∈ W0 := W0_of (List.mem_append_right _ (List.mem_of_getElem? (i := 755) (by decide +kernel))) rfl
theorem dX11_join_0 : decode cX11_join 0 = .ok (.aload_n 0, 1) := by decide +kernel
theorem dX11_join_1 : decode cX11_join 1 = .ok (.iload_n 1, 1) := by decide +kernel
theorem dX11_join_2 : decode cX11_join 2 = .ok (.iconst 2, 1) := by decide +kernel
theorem dX11_join_3 : decode cX11_join 3 = .ok (.iload_n 2, 1) := by decide +kernel
theorem dX11_join_4 : decode cX11_join 4 = .ok (.iload_n 3, 1) := by decide +kernel
theorem dX11_join_5 : decode cX11_join 5 = .ok (.invokevirtual 158, 3) := by decide +kernel
theorem mw_756 : (Jvm.Cond.methodLink "KindredBooks" (158 : Nat) ({ cls := "KindredBooks", name := "makeOfTwo", desc := "(IIII)I" } : Jvm.MethodName)) ∈ W0 := W0_of (List.mem_append_right _ (List.mem_of_getElem? (i := 756) (by decide +kernel))) rfl
theorem mw_758 : (Jvm.Cond.instanceMethod ({ cls := "KindredBooks", name := "makeOfTwo", desc := "(IIII)I" } : Jvm.MethodName)) ∈ W0 := W0_of (List.mem_append_right _ (List.mem_of_getElem? (i := 758) (by decide +kernel))) rfl
theorem ms_15 : Cond.selects "KindredBooks" (⟨"KindredBooks", "makeOfTwo", "(IIII)I"⟩ : MethodName) (⟨"KindredBooks", "makeOfTwo", "(IIII)I"⟩ : MethodName) ∈ W0 := W0_of (List.mem_append_left _ (List.mem_of_getElem? (i := 15) (by decide +kernel))) rfl
abbrev cX11_never : ByteArray := prog_1_method_8_code
def yX11_never : MethodName := ⟨"KindredBooks", "never", "(III)I"⟩
theorem mw_767 : (Jvm.Cond.code ({ cls := "KindredBooks", name := "never", desc := "(III)I" } : Jvm.MethodName) prog_1_method_8_code (4 : Nat) (Option.some Jvm.ClassFile.FieldType.int)) ∈ W0 := W0_of (List.mem_append_right _ (List.mem_of_getElem? (i := 767) (by decide +kernel))) rfl
theorem dX11_never_0 : decode cX11_never 0 = .ok (.aload_n 0, 1) := by decide +kernel
theorem dX11_never_1 : decode cX11_never 1 = .ok (.iload_n 1, 1) := by decide +kernel
theorem dX11_never_2 : decode cX11_never 2 = .ok (.iconst 3, 1) := by decide +kernel
theorem dX11_never_3 : decode cX11_never 3 = .ok (.iload_n 2, 1) := by decide +kernel
theorem dX11_never_4 : decode cX11_never 4 = .ok (.iload_n 3, 1) := by decide +kernel
theorem dX11_never_5 : decode cX11_never 5 = .ok (.invokevirtual 158, 3) := by decide +kernel
abbrev cX11_member : ByteArray := prog_1_method_9_code
def yX11_member : MethodName := ⟨"KindredBooks", "member", "(III)I"⟩
theorem mw_774 : (Jvm.Cond.code ({ cls := "KindredBooks", name := "member", desc := "(III)I" } : Jvm.MethodName) prog_1_method_9_code (4 : Nat) (Option.some Jvm.ClassFile.FieldType.int)) ∈ W0 := W0_of (List.mem_append_right _ (List.mem_of_getElem? (i := 774) (by decide +kernel))) rfl
theorem dX11_member_0 : decode cX11_member 0 = .ok (.aload_n 0, 1) := by decide +kernel
theorem dX11_member_1 : decode cX11_member 1 = .ok (.iload_n 1, 1) := by decide +kernel
theorem dX11_member_2 : decode cX11_member 2 = .ok (.iconst 4, 1) := by decide +kernel
theorem dX11_member_3 : decode cX11_member 3 = .ok (.iload_n 2, 1) := by decide +kernel
theorem dX11_member_4 : decode cX11_member 4 = .ok (.iload_n 3, 1) := by decide +kernel
theorem dX11_member_5 : decode cX11_member 5 = .ok (.invokevirtual 158, 3) := by decide +kernel
theorem dX11_line_5 : decode cX11_line 5 = .ok (.astore 4, 2) := by decide +kernel
theorem dX11_line_7 : decode cX11_line 7 = .ok (.aload_n 0, 1) := by decide +kernel
theorem dX11_line_8 : decode cX11_line 8 = .ok (.iload_n 3, 1) := by decide +kernel
theorem dX11_line_9 : decode cX11_line 9 = .ok (.invokevirtual 138, 3) := by decide +kernel
theorem mw_690 : (Jvm.Cond.methodLink "KindredBooks" (138 : Nat) ({ cls := "KindredBooks", name := "checkKind", desc := "(I)V" } : Jvm.MethodName)) ∈ W0 := W0_of (List.mem_append_right _ (List.mem_of_getElem? (i := 690) (by decide +kernel))) rfl
theorem mw_692 : (Jvm.Cond.instanceMethod ({ cls := "KindredBooks", name := "checkKind", desc := "(I)V" } : Jvm.MethodName)) ∈ W0 := W0_of (List.mem_append_right _ (List.mem_of_getElem? (i := 692) (by decide +kernel))) rfl
theorem ms_11 : Cond.selects "KindredBooks" (⟨"KindredBooks", "checkKind", "(I)V"⟩ : MethodName) (⟨"KindredBooks", "checkKind", "(I)V"⟩ : MethodName) ∈ W0 := W0_of (List.mem_append_left _ (List.mem_of_getElem? (i := 11) (by decide +kernel))) rfl
theorem dX11_line_12 : decode cX11_line 12 = .ok (.aload_n 0, 1) := by decide +kernel
theorem dX11_line_13 : decode cX11_line 13 = .ok (.aload 4, 2) := by decide +kernel
theorem dX11_line_15 : decode cX11_line 15 = .ok (.iload_n 2, 1) := by decide +kernel
theorem dX11_line_16 : decode cX11_line 16 = .ok (.invokevirtual 141, 3) := by decide +kernel
theorem dX11_gone_5 : decode cX11_gone 5 = .ok (.astore_n 3, 1) := by decide +kernel
theorem dX11_gone_6 : decode cX11_gone 6 = .ok (.aload_n 0, 1) := by decide +kernel
theorem dX11_gone_7 : decode cX11_gone 7 = .ok (.aload_n 3, 1) := by decide +kernel
theorem dX11_gone_8 : decode cX11_gone 8 = .ok (.iload_n 2, 1) := by decide +kernel
theorem dX11_gone_9 : decode cX11_gone 9 = .ok (.invokevirtual 141, 3) := by decide +kernel
theorem dX11_back_5 : decode cX11_back 5 = .ok (.astore_n 3, 1) := by decide +kernel
theorem dX11_back_6 : decode cX11_back 6 = .ok (.aload_n 0, 1) := by decide +kernel
theorem dX11_back_7 : decode cX11_back 7 = .ok (.iload_n 2, 1) := by decide +kernel
theorem dX11_back_8 : decode cX11_back 8 = .ok (.invokevirtual 162, 3) := by decide +kernel
theorem mw_789 : (Jvm.Cond.methodLink "KindredBooks" (162 : Nat) ({ cls := "KindredBooks", name := "checkChange", desc := "(I)V" } : Jvm.MethodName)) ∈ W0 := W0_of (List.mem_append_right _ (List.mem_of_getElem? (i := 789) (by decide +kernel))) rfl
theorem mw_791 : (Jvm.Cond.instanceMethod ({ cls := "KindredBooks", name := "checkChange", desc := "(I)V" } : Jvm.MethodName)) ∈ W0 := W0_of (List.mem_append_right _ (List.mem_of_getElem? (i := 791) (by decide +kernel))) rfl
theorem ms_16 : Cond.selects "KindredBooks" (⟨"KindredBooks", "checkChange", "(I)V"⟩ : MethodName) (⟨"KindredBooks", "checkChange", "(I)V"⟩ : MethodName) ∈ W0 := W0_of (List.mem_append_left _ (List.mem_of_getElem? (i := 16) (by decide +kernel))) rfl
theorem dX11_counts_5 : decode cX11_counts 5 = .ok (.astore_n 3, 1) := by decide +kernel
theorem dX11_counts_6 : decode cX11_counts 6 = .ok (.aload_n 0, 1) := by decide +kernel
theorem dX11_counts_7 : decode cX11_counts 7 = .ok (.iload_n 2, 1) := by decide +kernel
theorem dX11_counts_8 : decode cX11_counts 8 = .ok (.invokevirtual 162, 3) := by decide +kernel
theorem dX11_stands_5 : decode cX11_stands 5 = .ok (.astore_n 3, 1) := by decide +kernel
theorem dX11_stands_6 : decode cX11_stands 6 = .ok (.aload_n 0, 1) := by decide +kernel
theorem dX11_stands_7 : decode cX11_stands 7 = .ok (.iload_n 2, 1) := by decide +kernel
theorem dX11_stands_8 : decode cX11_stands 8 = .ok (.invokevirtual 162, 3) := by decide +kernel
abbrev cX1_latestOwn : ByteArray := prog_3_method_17_code
def yX1_latestOwn : MethodName := ⟨"KindredBooks$Book", "latestOwn", "()I"⟩
theorem mw_809 : (Jvm.Cond.code ({ cls := "KindredBooks$Book", name := "latestOwn", desc := "()I" } : Jvm.MethodName) prog_3_method_17_code (3 : Nat) (Option.some Jvm.ClassFile.FieldType.int)) ∈ W0 := W0_of (List.mem_append_right _ (List.mem_of_getElem? (i := 809) (by decide +kernel))) rfl
theorem dX1_latestOwn_0 : decode cX1_latestOwn 0 = .ok (.aload_n 0, 1) := by decide +kernel
theorem dX1_latestOwn_1 : decode cX1_latestOwn 1 = .ok (.getfield 31, 3) := by decide +kernel
theorem mw_269 : (Jvm.Cond.fieldLink "KindredBooks$Book" (31 : Nat) "KindredBooks$Book" "ledger" "LKindredBooks$Ledger;") ∈ W0 := W0_of (List.mem_append_right _ (List.mem_of_getElem? (i := 269) (by decide +kernel))) rfl
theorem dX1_latestOwn_4 : decode cX1_latestOwn 4 = .ok (.getfield 45, 3) := by decide +kernel
theorem mn_169 : (Jvm.Cond.fieldLinkNest "KindredBooks$Book" (45 : Nat) "KindredBooks$Ledger" "size" "I" "KindredBooks") ∈ N0 := N0_of (List.mem_append_right _ (List.mem_of_getElem? (i := 169) (by decide +kernel))) rfl
theorem dX1_latestOwn_7 : decode cX1_latestOwn 7 = .ok (.iconst 1, 1) := by decide +kernel
theorem dX1_latestOwn_8 : decode cX1_latestOwn 8 = .ok (.isub, 1) := by decide +kernel
theorem dX1_latestOwn_9 : decode cX1_latestOwn 9 = .ok (.istore_n 1, 1) := by decide +kernel
theorem dX1_latestOwn_10 : decode cX1_latestOwn 10 = .ok (.iload_n 1, 1) := by decide +kernel
theorem dX1_latestOwn_11 : decode cX1_latestOwn 11 = .ok (.ifCond .lt 48, 3) := by decide +kernel
theorem dX1_latestOwn_59 : decode cX1_latestOwn 59 = .ok (.iconst (-1), 1) := by decide +kernel
theorem dX1_latestOwn_60 : decode cX1_latestOwn 60 = .ok (.ireturn, 1) := by decide +kernel
theorem dX11_undo_5 : decode cX11_undo 5 = .ok (.astore_n 2, 1) := by decide +kernel
theorem dX11_undo_6 : decode cX11_undo 6 = .ok (.aload_n 2, 1) := by decide +kernel
theorem dX11_undo_7 : decode cX11_undo 7 = .ok (.invokevirtual 174, 3) := by decide +kernel
theorem mw_806 : (Jvm.Cond.methodLink "KindredBooks" (174 : Nat) ({ cls := "KindredBooks$Book", name := "latestOwn", desc := "()I" } : Jvm.MethodName)) ∈ W0 := W0_of (List.mem_append_right _ (List.mem_of_getElem? (i := 806) (by decide +kernel))) rfl
theorem mw_807 : (Jvm.Cond.instanceMethod ({ cls := "KindredBooks$Book", name := "latestOwn", desc := "()I" } : Jvm.MethodName)) ∈ W0 := W0_of (List.mem_append_right _ (List.mem_of_getElem? (i := 807) (by decide +kernel))) rfl
theorem mw_808 : (Jvm.Cond.selects "KindredBooks$Book" ({ cls := "KindredBooks$Book", name := "latestOwn", desc := "()I" } : Jvm.MethodName) ({ cls := "KindredBooks$Book", name := "latestOwn", desc := "()I" } : Jvm.MethodName)) ∈ W0 := W0_of (List.mem_append_right _ (List.mem_of_getElem? (i := 808) (by decide +kernel))) rfl
theorem dX11_undo_10 : decode cX11_undo 10 = .ok (.istore_n 3, 1) := by decide +kernel
theorem dX11_undo_11 : decode cX11_undo 11 = .ok (.iload_n 3, 1) := by decide +kernel
theorem dX11_undo_12 : decode cX11_undo 12 = .ok (.iconst (-1), 1) := by decide +kernel
theorem dX11_undo_13 : decode cX11_undo 13 = .ok (.if_icmp .ne 5, 3) := by decide +kernel
theorem dX11_undo_16 : decode cX11_undo 16 = .ok (.iconst (-1), 1) := by decide +kernel
theorem dX11_undo_17 : decode cX11_undo 17 = .ok (.ireturn, 1) := by decide +kernel
theorem dX11_known_5 : decode cX11_known 5 = .ok (.getfield 200, 3) := by decide +kernel
theorem mn_276 : (Jvm.Cond.fieldLinkNest "KindredBooks" (200 : Nat) "KindredBooks$Book" "size" "I" "KindredBooks") ∈ N0 := N0_of (List.mem_append_right _ (List.mem_of_getElem? (i := 276) (by decide +kernel))) rfl
theorem dX11_known_8 : decode cX11_known 8 = .ok (.ireturn, 1) := by decide +kernel
abbrev cX1_learnFrom : ByteArray := prog_3_method_6_code
def yX1_learnFrom : MethodName := ⟨"KindredBooks$Book", "learnFrom", "(LKindredBooks$Book;)I"⟩
theorem mw_821 : (Jvm.Cond.code ({ cls := "KindredBooks$Book", name := "learnFrom", desc := "(LKindredBooks$Book;)I" } : Jvm.MethodName) prog_3_method_6_code (4 : Nat) (Option.some Jvm.ClassFile.FieldType.int)) ∈ W0 := W0_of (List.mem_append_right _ (List.mem_of_getElem? (i := 821) (by decide +kernel))) rfl
theorem dX1_learnFrom_0 : decode cX1_learnFrom 0 = .ok (.aload_n 0, 1) := by decide +kernel
theorem dX1_learnFrom_1 : decode cX1_learnFrom 1 = .ok (.getfield 66, 3) := by decide +kernel
theorem mw_275 : (Jvm.Cond.fieldLink "KindredBooks$Book" (66 : Nat) "KindredBooks$Book" "size" "I") ∈ W0 := W0_of (List.mem_append_right _ (List.mem_of_getElem? (i := 275) (by decide +kernel))) rfl
theorem dX1_learnFrom_4 : decode cX1_learnFrom 4 = .ok (.istore_n 2, 1) := by decide +kernel
theorem dX1_learnFrom_5 : decode cX1_learnFrom 5 = .ok (.iconst 0, 1) := by decide +kernel
theorem dX1_learnFrom_6 : decode cX1_learnFrom 6 = .ok (.istore_n 3, 1) := by decide +kernel
theorem dX1_learnFrom_7 : decode cX1_learnFrom 7 = .ok (.iload_n 3, 1) := by decide +kernel
theorem dX1_learnFrom_8 : decode cX1_learnFrom 8 = .ok (.aload_n 0, 1) := by decide +kernel
theorem dX1_learnFrom_9 : decode cX1_learnFrom 9 = .ok (.getfield 31, 3) := by decide +kernel
theorem dX1_learnFrom_12 : decode cX1_learnFrom 12 = .ok (.getfield 45, 3) := by decide +kernel
theorem dX1_learnFrom_15 : decode cX1_learnFrom 15 = .ok (.if_icmp .ge 37, 3) := by decide +kernel
theorem dX1_learnFrom_52 : decode cX1_learnFrom 52 = .ok (.aload_n 0, 1) := by decide +kernel
theorem dX1_learnFrom_53 : decode cX1_learnFrom 53 = .ok (.getfield 66, 3) := by decide +kernel
theorem dX1_learnFrom_56 : decode cX1_learnFrom 56 = .ok (.iload_n 2, 1) := by decide +kernel
theorem dX1_learnFrom_57 : decode cX1_learnFrom 57 = .ok (.if_icmp .le 7, 3) := by decide +kernel
theorem dX1_learnFrom_64 : decode cX1_learnFrom 64 = .ok (.aload_n 0, 1) := by decide +kernel
theorem dX1_learnFrom_65 : decode cX1_learnFrom 65 = .ok (.getfield 66, 3) := by decide +kernel
theorem dX1_learnFrom_68 : decode cX1_learnFrom 68 = .ok (.iload_n 2, 1) := by decide +kernel
theorem dX1_learnFrom_69 : decode cX1_learnFrom 69 = .ok (.isub, 1) := by decide +kernel
theorem dX1_learnFrom_70 : decode cX1_learnFrom 70 = .ok (.ireturn, 1) := by decide +kernel
abbrev cX1_knowsTheSame : ByteArray := prog_3_method_7_code
def yX1_knowsTheSame : MethodName := ⟨"KindredBooks$Book", "knowsTheSame", "(LKindredBooks$Book;)Z"⟩
theorem mw_1379 : (Jvm.Cond.code ({ cls := "KindredBooks$Book", name := "knowsTheSame", desc := "(LKindredBooks$Book;)Z" } : Jvm.MethodName) prog_3_method_7_code (3 : Nat) (Option.some Jvm.ClassFile.FieldType.boolean)) ∈ W0 := W0_of (List.mem_append_right _ (List.mem_of_getElem? (i := 1379) (by decide +kernel))) rfl
theorem dX1_knowsTheSame_0 : decode cX1_knowsTheSame 0 = .ok (.iconst 0, 1) := by decide +kernel
theorem dX1_knowsTheSame_1 : decode cX1_knowsTheSame 1 = .ok (.istore_n 2, 1) := by decide +kernel
theorem dX1_knowsTheSame_2 : decode cX1_knowsTheSame 2 = .ok (.iload_n 2, 1) := by decide +kernel
theorem dX1_knowsTheSame_3 : decode cX1_knowsTheSame 3 = .ok (.aload_n 0, 1) := by decide +kernel
theorem dX1_knowsTheSame_4 : decode cX1_knowsTheSame 4 = .ok (.getfield 31, 3) := by decide +kernel
theorem dX1_knowsTheSame_7 : decode cX1_knowsTheSame 7 = .ok (.getfield 45, 3) := by decide +kernel
theorem dX1_knowsTheSame_10 : decode cX1_knowsTheSame 10 = .ok (.if_icmp .ge 24, 3) := by decide +kernel
theorem dX1_knowsTheSame_34 : decode cX1_knowsTheSame 34 = .ok (.iconst 1, 1) := by decide +kernel
theorem dX1_knowsTheSame_35 : decode cX1_knowsTheSame 35 = .ok (.ireturn, 1) := by decide +kernel
theorem dX11_hear_5 : decode cX11_hear 5 = .ok (.astore_n 3, 1) := by decide +kernel
theorem dX11_hear_6 : decode cX11_hear 6 = .ok (.aload_n 3, 1) := by decide +kernel
theorem dX11_hear_7 : decode cX11_hear 7 = .ok (.aload_n 0, 1) := by decide +kernel
theorem dX11_hear_8 : decode cX11_hear 8 = .ok (.iload_n 2, 1) := by decide +kernel
theorem dX11_hear_9 : decode cX11_hear 9 = .ok (.invokevirtual 124, 3) := by decide +kernel
theorem dX11_hear_12 : decode cX11_hear 12 = .ok (.invokevirtual 178, 3) := by decide +kernel
theorem mw_818 : (Jvm.Cond.methodLink "KindredBooks" (178 : Nat) ({ cls := "KindredBooks$Book", name := "learnFrom", desc := "(LKindredBooks$Book;)I" } : Jvm.MethodName)) ∈ W0 := W0_of (List.mem_append_right _ (List.mem_of_getElem? (i := 818) (by decide +kernel))) rfl
theorem mw_819 : (Jvm.Cond.instanceMethod ({ cls := "KindredBooks$Book", name := "learnFrom", desc := "(LKindredBooks$Book;)I" } : Jvm.MethodName)) ∈ W0 := W0_of (List.mem_append_right _ (List.mem_of_getElem? (i := 819) (by decide +kernel))) rfl
theorem mw_820 : (Jvm.Cond.selects "KindredBooks$Book" ({ cls := "KindredBooks$Book", name := "learnFrom", desc := "(LKindredBooks$Book;)I" } : Jvm.MethodName) ({ cls := "KindredBooks$Book", name := "learnFrom", desc := "(LKindredBooks$Book;)I" } : Jvm.MethodName)) ∈ W0 := W0_of (List.mem_append_right _ (List.mem_of_getElem? (i := 820) (by decide +kernel))) rfl
theorem dX11_hear_15 : decode cX11_hear 15 = .ok (.ireturn, 1) := by decide +kernel
theorem dX11_agree_5 : decode cX11_agree 5 = .ok (.astore_n 3, 1) := by decide +kernel
theorem dX11_agree_6 : decode cX11_agree 6 = .ok (.aload_n 3, 1) := by decide +kernel
theorem dX11_agree_7 : decode cX11_agree 7 = .ok (.aload_n 0, 1) := by decide +kernel
theorem dX11_agree_8 : decode cX11_agree 8 = .ok (.iload_n 2, 1) := by decide +kernel
theorem dX11_agree_9 : decode cX11_agree 9 = .ok (.invokevirtual 124, 3) := by decide +kernel
theorem dX11_agree_12 : decode cX11_agree 12 = .ok (.invokevirtual 364, 3) := by decide +kernel
theorem mw_1376 : (Jvm.Cond.methodLink "KindredBooks" (364 : Nat) ({ cls := "KindredBooks$Book", name := "knowsTheSame", desc := "(LKindredBooks$Book;)Z" } : Jvm.MethodName)) ∈ W0 := W0_of (List.mem_append_right _ (List.mem_of_getElem? (i := 1376) (by decide +kernel))) rfl
theorem mw_1377 : (Jvm.Cond.instanceMethod ({ cls := "KindredBooks$Book", name := "knowsTheSame", desc := "(LKindredBooks$Book;)Z" } : Jvm.MethodName)) ∈ W0 := W0_of (List.mem_append_right _ (List.mem_of_getElem? (i := 1377) (by decide +kernel))) rfl
theorem mw_1378 : (Jvm.Cond.selects "KindredBooks$Book" ({ cls := "KindredBooks$Book", name := "knowsTheSame", desc := "(LKindredBooks$Book;)Z" } : Jvm.MethodName) ({ cls := "KindredBooks$Book", name := "knowsTheSame", desc := "(LKindredBooks$Book;)Z" } : Jvm.MethodName)) ∈ W0 := W0_of (List.mem_append_right _ (List.mem_of_getElem? (i := 1378) (by decide +kernel))) rfl
theorem dX11_agree_15 : decode cX11_agree 15 = .ok (.ireturn, 1) := by decide +kernel
abbrev cX11_change : ByteArray := prog_1_method_15_code
def yX11_change : MethodName := ⟨"KindredBooks", "change", "(II)I"⟩
theorem mw_832 : (Jvm.Cond.code ({ cls := "KindredBooks", name := "change", desc := "(II)I" } : Jvm.MethodName) prog_1_method_15_code (4 : Nat) (Option.some Jvm.ClassFile.FieldType.int)) ∈ W0 := W0_of (List.mem_append_right _ (List.mem_of_getElem? (i := 832) (by decide +kernel))) rfl
theorem dX11_change_0 : decode cX11_change 0 = .ok (.aload_n 0, 1) := by decide +kernel
theorem dX11_change_1 : decode cX11_change 1 = .ok (.iload_n 1, 1) := by decide +kernel
theorem dX11_change_2 : decode cX11_change 2 = .ok (.invokevirtual 162, 3) := by decide +kernel
abbrev cX11_write : ByteArray := prog_1_method_29_code
def yX11_write : MethodName := ⟨"KindredBooks", "write", "(II)I"⟩
theorem mw_1071 : (Jvm.Cond.code ({ cls := "KindredBooks", name := "write", desc := "(II)I" } : Jvm.MethodName) prog_1_method_29_code (4 : Nat) (Option.some Jvm.ClassFile.FieldType.int)) ∈ W0 := W0_of (List.mem_append_right _ (List.mem_of_getElem? (i := 1071) (by decide +kernel))) rfl
theorem dX11_write_0 : decode cX11_write 0 = .ok (.aload_n 0, 1) := by decide +kernel
theorem dX11_write_1 : decode cX11_write 1 = .ok (.iload_n 1, 1) := by decide +kernel
theorem dX11_write_2 : decode cX11_write 2 = .ok (.invokevirtual 162, 3) := by decide +kernel
theorem dX11_holds_5 : decode cX11_holds 5 = .ok (.astore_n 3, 1) := by decide +kernel
theorem dX11_holds_6 : decode cX11_holds 6 = .ok (.aload_n 0, 1) := by decide +kernel
theorem dX11_holds_7 : decode cX11_holds 7 = .ok (.iload_n 2, 1) := by decide +kernel
theorem dX11_holds_8 : decode cX11_holds 8 = .ok (.invokevirtual 162, 3) := by decide +kernel
def zbad (b : Int32) : Prop := b < 0 ∨ 3 ≤ b
theorem zbad_3 {b : Int32} (h : zbad b) (h1 : ¬ b < 0) : ¬ b < 3 := Int32.not_lt.mpr (h.resolve_left h1)
def zbadk (b : Int32) : Prop := b < 0 ∨ 4 < b
theorem zbadk_4 {b : Int32} (h : zbadk b) (h1 : ¬ b < 0) : ¬ b ≤ 4 := Int32.not_le.mpr (h.resolve_left h1)
def zokk (b : Int32) : Prop := ¬ b < 0 ∧ b ≤ 4
set_option maxHeartbeats 4000000 in
set_option maxRecDepth 100000 in
/-- bookOf: no such book -/
theorem c_bookOf_no (l : Launch) (D : va_G) (dA : Nat → ClassId) (dZ : Nat → Nat) (sz : Nat) (hfl : l.stackTraces = false) (ax : Nat) (b : Int32) (hz : zbad b) : vx_Met l yX11_bookOf (wz yX11_bookOf cX11_bookOf 2 (some (.object "KindredBooks$Book"))) ({ frames := 6, cells := 1, slots := 6, locals := 100 } : Room) (va_Pc [.ref ax, .int b] (zP D dA dZ [] sz)) zNo (zX "java/lang/IndexOutOfBoundsException" (va_A [] sz)) 1 6 (va_A [] sz) := by
  refine vx_ofW (cc := cX11_bookOf) (maxL := 2) (ret := (some (.object "KindredBooks$Book"))) (by decide) rfl ?_
  intro p e s m args below meth c s₁ B hml hno hv
  obtain ⟨rfl, hsz, hP, hK, hD0, hT, hE⟩ := hv
  have hx := B.exec
  have hb := B.bytes
  have hr := B.returns
  have hw := wz_hw (atoms_spec (ws := wz yX11_bookOf cX11_bookOf 2 (some (.object "KindredBooks$Book"))) B.pre)
  have hown : s.vm.findClass "KindredBooks" = some m.cls := findClass_of_methodNamed B.named
  have hlocks := B.notSynchronized
  have hn := hT.1.use (args := ([.ref ax, .int b] : List Value).toArray)
  subst hsz
  have hD := hD0.self (sz := s.heap.size)
  generalize hAe : va_A [] s.heap.size = A at hD hE ⊢
  have hA : ∀ q : Nat, s.heap.size ≤ q → A q := fun q h => by rw [← hAe]; exact Or.inr h
  have hS : va_S A s.heap s.heap [] := va_S.rf
  replace hP : va_P D zcl [] s.heap := hP
  have hl := lv_entry ([.ref ax, .int b]) (n := 2) (Nat.le_of_ble_eq_true rfl)
  rw [lg_entry_eq]
  generalize (lg_sl ([.ref ax, .int b]) ++ List.replicate (2 - (lg_sl ([.ref ax, .int b])).length) Slot.unset).toArray = ls at hl ⊢
  replace hl : lv_has ls 2 [(0, .ref ax), (1, .int b)] := hl
  refine lv_iload_n hx hb dX11_bookOf_0 rfl (lv_at hl 1 rfl) ?_
  refine lv_if_lt (tgt := 9) hx hb dX11_bookOf_1 (by decide) (fun c1 => ?_) (fun c1 => ?_)
  · obtain ⟨sa, hsa⟩ := hT.2.1 ("KindredBooks", 395, "there is no such book") (by decide)
    exact vx_throwSW (own := "KindredBooks") (cls := "java/lang/IndexOutOfBoundsException") (names := ["java/lang/RuntimeException", "java/lang/Exception"]) (XC := zX "java/lang/IndexOutOfBoundsException" A) hx hb hfl hown (by decide) (by decide) (hw _ mw_607) (hw _ mw_29) hsa (z_at hw hT.1 xat_KindredBooks_216_IndexOutOfBoundsException) xgd_KindredBooks_216_212 hE.2.2.2.2.2.1 hE.2.2.2.2.2.2 hS (hl.1.trans hml.symm) dX11_bookOf_9 dX11_bookOf_12 dX11_bookOf_13 dX11_bookOf_16 dX11_bookOf_19 (fun x hx => (hno x hx).elim) (Nat.le_of_ble_eq_true rfl) (Nat.le_of_ble_eq_true rfl) (Nat.le_of_ble_eq_true rfl) (Nat.le_of_ble_eq_true rfl) hlocks (fun t _ h1 h2 => zX_of hS h1 h2) hS.2.2 (Nat.le_of_ble_eq_true rfl) (Nat.le_of_ble_eq_true rfl)
  · refine lv_iload_n hx hb dX11_bookOf_4 rfl (lv_at hl 1 rfl) ?_
    refine lv_iconst (v := 3) hx hb dX11_bookOf_5 (by decide) ?_
    refine lv_icmp_lt (tgt := 20) hx hb dX11_bookOf_6 (by decide) (fun zc => absurd zc (zbad_3 hz c1)) (fun _ => ?_)
    obtain ⟨sa, hsa⟩ := hT.2.1 ("KindredBooks", 395, "there is no such book") (by decide)
    exact vx_throwSW (own := "KindredBooks") (cls := "java/lang/IndexOutOfBoundsException") (names := ["java/lang/RuntimeException", "java/lang/Exception"]) (XC := zX "java/lang/IndexOutOfBoundsException" A) hx hb hfl hown (by decide) (by decide) (hw _ mw_607) (hw _ mw_29) hsa (z_at hw hT.1 xat_KindredBooks_216_IndexOutOfBoundsException) xgd_KindredBooks_216_212 hE.2.2.2.2.2.1 hE.2.2.2.2.2.2 hS (hl.1.trans hml.symm) dX11_bookOf_9 dX11_bookOf_12 dX11_bookOf_13 dX11_bookOf_16 dX11_bookOf_19 (fun x hx => (hno x hx).elim) (Nat.le_of_ble_eq_true rfl) (Nat.le_of_ble_eq_true rfl) (Nat.le_of_ble_eq_true rfl) (Nat.le_of_ble_eq_true rfl) hlocks (fun t _ h1 h2 => zX_of hS h1 h2) hS.2.2 (Nat.le_of_ble_eq_true rfl) (Nat.le_of_ble_eq_true rfl)
set_option maxHeartbeats 4000000 in
set_option maxRecDepth 100000 in
/-- kinOf: no such book -/
theorem c_kinOf_no (l : Launch) (D : va_G) (dA : Nat → ClassId) (dZ : Nat → Nat) (sz : Nat) (hfl : l.stackTraces = false) (ax : Nat) (b : Int32) (hz : zbad b) : vx_Met l yX11_kinOf (wz yX11_kinOf cX11_kinOf 2 (some (.object "KindredBooks$Kin"))) ({ frames := 6, cells := 1, slots := 6, locals := 100 } : Room) (va_Pc [.ref ax, .int b] (zP D dA dZ [] sz)) zNo (zX "java/lang/IndexOutOfBoundsException" (va_A [] sz)) 1 6 (va_A [] sz) := by
  refine vx_ofW (cc := cX11_kinOf) (maxL := 2) (ret := (some (.object "KindredBooks$Kin"))) (by decide) rfl ?_
  intro p e s m args below meth c s₁ B hml hno hv
  obtain ⟨rfl, hsz, hP, hK, hD0, hT, hE⟩ := hv
  have hx := B.exec
  have hb := B.bytes
  have hr := B.returns
  have hw := wz_hw (atoms_spec (ws := wz yX11_kinOf cX11_kinOf 2 (some (.object "KindredBooks$Kin"))) B.pre)
  have hown : s.vm.findClass "KindredBooks" = some m.cls := findClass_of_methodNamed B.named
  have hlocks := B.notSynchronized
  have hn := hT.1.use (args := ([.ref ax, .int b] : List Value).toArray)
  subst hsz
  have hD := hD0.self (sz := s.heap.size)
  generalize hAe : va_A [] s.heap.size = A at hD hE ⊢
  have hA : ∀ q : Nat, s.heap.size ≤ q → A q := fun q h => by rw [← hAe]; exact Or.inr h
  have hS : va_S A s.heap s.heap [] := va_S.rf
  replace hP : va_P D zcl [] s.heap := hP
  have hl := lv_entry ([.ref ax, .int b]) (n := 2) (Nat.le_of_ble_eq_true rfl)
  rw [lg_entry_eq]
  generalize (lg_sl ([.ref ax, .int b]) ++ List.replicate (2 - (lg_sl ([.ref ax, .int b])).length) Slot.unset).toArray = ls at hl ⊢
  replace hl : lv_has ls 2 [(0, .ref ax), (1, .int b)] := hl
  refine lv_iload_n hx hb dX11_kinOf_0 rfl (lv_at hl 1 rfl) ?_
  refine lv_if_lt (tgt := 9) hx hb dX11_kinOf_1 (by decide) (fun c1 => ?_) (fun c1 => ?_)
  · obtain ⟨sa, hsa⟩ := hT.2.1 ("KindredBooks", 395, "there is no such book") (by decide)
    exact vx_throwSW (own := "KindredBooks") (cls := "java/lang/IndexOutOfBoundsException") (names := ["java/lang/RuntimeException", "java/lang/Exception"]) (XC := zX "java/lang/IndexOutOfBoundsException" A) hx hb hfl hown (by decide) (by decide) (hw _ mw_607) (hw _ mw_29) hsa (z_at hw hT.1 xat_KindredBooks_216_IndexOutOfBoundsException) xgd_KindredBooks_216_212 hE.2.2.2.2.2.1 hE.2.2.2.2.2.2 hS (hl.1.trans hml.symm) dX11_kinOf_9 dX11_kinOf_12 dX11_kinOf_13 dX11_kinOf_16 dX11_kinOf_19 (fun x hx => (hno x hx).elim) (Nat.le_of_ble_eq_true rfl) (Nat.le_of_ble_eq_true rfl) (Nat.le_of_ble_eq_true rfl) (Nat.le_of_ble_eq_true rfl) hlocks (fun t _ h1 h2 => zX_of hS h1 h2) hS.2.2 (Nat.le_of_ble_eq_true rfl) (Nat.le_of_ble_eq_true rfl)
  · refine lv_iload_n hx hb dX11_kinOf_4 rfl (lv_at hl 1 rfl) ?_
    refine lv_iconst (v := 3) hx hb dX11_kinOf_5 (by decide) ?_
    refine lv_icmp_lt (tgt := 20) hx hb dX11_kinOf_6 (by decide) (fun zc => absurd zc (zbad_3 hz c1)) (fun _ => ?_)
    obtain ⟨sa, hsa⟩ := hT.2.1 ("KindredBooks", 395, "there is no such book") (by decide)
    exact vx_throwSW (own := "KindredBooks") (cls := "java/lang/IndexOutOfBoundsException") (names := ["java/lang/RuntimeException", "java/lang/Exception"]) (XC := zX "java/lang/IndexOutOfBoundsException" A) hx hb hfl hown (by decide) (by decide) (hw _ mw_607) (hw _ mw_29) hsa (z_at hw hT.1 xat_KindredBooks_216_IndexOutOfBoundsException) xgd_KindredBooks_216_212 hE.2.2.2.2.2.1 hE.2.2.2.2.2.2 hS (hl.1.trans hml.symm) dX11_kinOf_9 dX11_kinOf_12 dX11_kinOf_13 dX11_kinOf_16 dX11_kinOf_19 (fun x hx => (hno x hx).elim) (Nat.le_of_ble_eq_true rfl) (Nat.le_of_ble_eq_true rfl) (Nat.le_of_ble_eq_true rfl) (Nat.le_of_ble_eq_true rfl) hlocks (fun t _ h1 h2 => zX_of hS h1 h2) hS.2.2 (Nat.le_of_ble_eq_true rfl) (Nat.le_of_ble_eq_true rfl)
set_option maxHeartbeats 4000000 in
set_option maxRecDepth 100000 in
/-- checkKind: none -/
theorem c_checkKind_no (l : Launch) (D : va_G) (dA : Nat → ClassId) (dZ : Nat → Nat) (sz : Nat) (hfl : l.stackTraces = false) (ax : Nat) (b : Int32) (hz : zbadk b) : vx_Met l yX11_checkKind (wz yX11_checkKind cX11_checkKind 2 none) ({ frames := 6, cells := 1, slots := 6, locals := 100 } : Room) (va_Pc [.ref ax, .int b] (zP D dA dZ [] sz)) zNo (zX "java/lang/IllegalArgumentException" (va_A [] sz)) 1 6 (va_A [] sz) := by
  refine vx_ofW (cc := cX11_checkKind) (maxL := 2) (ret := none) (by decide) rfl ?_
  intro p e s m args below meth c s₁ B hml hno hv
  obtain ⟨rfl, hsz, hP, hK, hD0, hT, hE⟩ := hv
  have hx := B.exec
  have hb := B.bytes
  have hr := B.returns
  have hw := wz_hw (atoms_spec (ws := wz yX11_checkKind cX11_checkKind 2 none) B.pre)
  have hown : s.vm.findClass "KindredBooks" = some m.cls := findClass_of_methodNamed B.named
  have hlocks := B.notSynchronized
  have hn := hT.1.use (args := ([.ref ax, .int b] : List Value).toArray)
  subst hsz
  have hD := hD0.self (sz := s.heap.size)
  generalize hAe : va_A [] s.heap.size = A at hD hE ⊢
  have hA : ∀ q : Nat, s.heap.size ≤ q → A q := fun q h => by rw [← hAe]; exact Or.inr h
  have hS : va_S A s.heap s.heap [] := va_S.rf
  replace hP : va_P D zcl [] s.heap := hP
  have hl := lv_entry ([.ref ax, .int b]) (n := 2) (Nat.le_of_ble_eq_true rfl)
  rw [lg_entry_eq]
  generalize (lg_sl ([.ref ax, .int b]) ++ List.replicate (2 - (lg_sl ([.ref ax, .int b])).length) Slot.unset).toArray = ls at hl ⊢
  replace hl : lv_has ls 2 [(0, .ref ax), (1, .int b)] := hl
  refine lv_iload_n hx hb dX11_checkKind_0 rfl (lv_at hl 1 rfl) ?_
  refine lv_if_lt (tgt := 9) hx hb dX11_checkKind_1 (by decide) (fun c1 => ?_) (fun c1 => ?_)
  · obtain ⟨sa, hsa⟩ := hT.2.1 ("KindredBooks", 404, "there is no such kind of lines") (by decide)
    exact vx_throwSW (own := "KindredBooks") (cls := "java/lang/IllegalArgumentException") (names := ["java/lang/RuntimeException", "java/lang/Exception"]) (XC := zX "java/lang/IllegalArgumentException" A) hx hb hfl hown (by decide) (by decide) (hw _ mw_540) (hw _ mw_33) hsa (z_at hw hT.1 xat_KindredBooks_102_IllegalArgumentException) xgd_KindredBooks_102_98 hE.2.2.2.2.2.1 hE.2.2.2.2.2.2 hS (hl.1.trans hml.symm) dX11_checkKind_9 dX11_checkKind_12 dX11_checkKind_13 dX11_checkKind_16 dX11_checkKind_19 (fun x hx => (hno x hx).elim) (Nat.le_of_ble_eq_true rfl) (Nat.le_of_ble_eq_true rfl) (Nat.le_of_ble_eq_true rfl) (Nat.le_of_ble_eq_true rfl) hlocks (fun t _ h1 h2 => zX_of hS h1 h2) hS.2.2 (Nat.le_of_ble_eq_true rfl) (Nat.le_of_ble_eq_true rfl)
  · refine lv_iload_n hx hb dX11_checkKind_4 rfl (lv_at hl 1 rfl) ?_
    refine lv_iconst (v := 4) hx hb dX11_checkKind_5 (by decide) ?_
    refine lv_icmp_le (tgt := 20) hx hb dX11_checkKind_6 (by decide) (fun zc => absurd zc (zbadk_4 hz c1)) (fun _ => ?_)
    obtain ⟨sa, hsa⟩ := hT.2.1 ("KindredBooks", 404, "there is no such kind of lines") (by decide)
    exact vx_throwSW (own := "KindredBooks") (cls := "java/lang/IllegalArgumentException") (names := ["java/lang/RuntimeException", "java/lang/Exception"]) (XC := zX "java/lang/IllegalArgumentException" A) hx hb hfl hown (by decide) (by decide) (hw _ mw_540) (hw _ mw_33) hsa (z_at hw hT.1 xat_KindredBooks_102_IllegalArgumentException) xgd_KindredBooks_102_98 hE.2.2.2.2.2.1 hE.2.2.2.2.2.2 hS (hl.1.trans hml.symm) dX11_checkKind_9 dX11_checkKind_12 dX11_checkKind_13 dX11_checkKind_16 dX11_checkKind_19 (fun x hx => (hno x hx).elim) (Nat.le_of_ble_eq_true rfl) (Nat.le_of_ble_eq_true rfl) (Nat.le_of_ble_eq_true rfl) (Nat.le_of_ble_eq_true rfl) hlocks (fun t _ h1 h2 => zX_of hS h1 h2) hS.2.2 (Nat.le_of_ble_eq_true rfl) (Nat.le_of_ble_eq_true rfl)
set_option maxHeartbeats 4000000 in
set_option maxRecDepth 100000 in
/-- checkKind: a kind -/
theorem c_checkKind_ok (l : Launch) (D : va_G) (dA : Nat → ClassId) (dZ : Nat → Nat) (sz : Nat) (ax : Nat) (b : Int32) (hz : zokk b) : Met l yX11_checkKind (wz yX11_checkKind cX11_checkKind 2 none) ({ frames := 0, cells := 0, slots := 0, locals := 0 } : Room) (va_Pc [.ref ax, .int b] (zP D dA dZ [] sz)) (va_Qv (fun (_ : Unit) => True) (fun _ => zB D (va_A [] sz) []) (va_A [] sz)) 0 0 (va_A [] sz) := by
  refine Met.ofW (cc := cX11_checkKind) (maxL := 2) (ret := none) (by decide) rfl ?_
  intro p e s m args below meth c s₁ B hml hv
  obtain ⟨rfl, hsz, hP, hK, hD0, hT, hE⟩ := hv
  have hx := B.exec
  have hb := B.bytes
  have hr := B.returns
  have hw := wz_hw (atoms_spec (ws := wz yX11_checkKind cX11_checkKind 2 none) B.pre)
  have hown : s.vm.findClass "KindredBooks" = some m.cls := findClass_of_methodNamed B.named
  have hlocks := B.notSynchronized
  have hn := hT.1.use (args := ([.ref ax, .int b] : List Value).toArray)
  subst hsz
  have hD := hD0.self (sz := s.heap.size)
  generalize hAe : va_A [] s.heap.size = A at hD hE ⊢
  have hA : ∀ q : Nat, s.heap.size ≤ q → A q := fun q h => by rw [← hAe]; exact Or.inr h
  have hS : va_S A s.heap s.heap [] := va_S.rf
  replace hP : va_P D zcl [] s.heap := hP
  have hl := lv_entry ([.ref ax, .int b]) (n := 2) (Nat.le_of_ble_eq_true rfl)
  rw [lg_entry_eq]
  generalize (lg_sl ([.ref ax, .int b]) ++ List.replicate (2 - (lg_sl ([.ref ax, .int b])).length) Slot.unset).toArray = ls at hl ⊢
  replace hl : lv_has ls 2 [(0, .ref ax), (1, .int b)] := hl
  refine lv_iload_n hx hb dX11_checkKind_0 rfl (lv_at hl 1 rfl) ?_
  refine lv_if_lt (tgt := 9) hx hb dX11_checkKind_1 (by decide) (fun zc => absurd zc hz.1) (fun _ => ?_)
  refine lv_iload_n hx hb dX11_checkKind_4 rfl (lv_at hl 1 rfl) ?_
  refine lv_iconst (v := 4) hx hb dX11_checkKind_5 (by decide) ?_
  refine lv_icmp_le (tgt := 20) hx hb dX11_checkKind_6 (by decide) (fun _ => ?_) (fun zc => absurd hz.2 zc)
  have hP9 := hP.sub (ws' := []) [] rfl
  have hD9 := hD.sub (ws' := []) [] (by decide) rfl
  exact W.vret hx hb hr (fun t ht hW => ⟨⟨(), rfl, trivial, by rw [ht]; exact hP9, hD9⟩, hS.F ht⟩) hS.2.2 dX11_checkKind_20
set_option maxHeartbeats 4000000 in
set_option maxRecDepth 100000 in
/-- refresh of a fresh book -/
theorem c_refresh0 (l : Launch) (D : va_G) (dA : Nat → ClassId) (dZ : Nat → Nat) (sz : Nat) (kn : Nat) (bk : Nat) (xl : Nat) (k1 : Nat) (k2 : Nat) (k3 : Nat) (k4 : Nat) (k5 : Nat) (k6 : Nat) (k7 : Nat) (k8 : Nat) (k9 : Nat) (b1 : Nat) (b2 : Nat) (b3 : Nat) (b4 : Nat) (bl : Nat) (no : Nat) (ro : Nat) (hd : Int32) (f1 : Nat → Int32) (f2 : Nat → Int32) (f5 : Nat → Int32) : Met l yX5_refresh (wz yX5_refresh cX5_refresh 2 none) ({ frames := 4, cells := 0, slots := 0, locals := 120 } : Room) (va_Pc [.ref kn] (zP D dA dZ [(kn, .inr (6, [.ref bk, .ref xl, .ref k1, .ref k2, .ref k3, .int 0, .ref k4, .ref k5, .ref k6, .ref k7, .ref k8, .ref k9, .int (-1)])), (bk, .inr (5, [.int hd, .ref xl, .ref b1, .ref b2, .ref b3, .ref b4, .int 0, .int 0, .int 0])), (b3, .inl (dA 1, 250, .inl (fun _ => 0))), (xl, .inr (2, [.ref bl, .ref no, .ref ro, .int 0])), (k1, .inl (dA 0, 250, .inl f1)), (k2, .inl (dA 1, 250, .inl f2)), (k5, .inl (dA 0, 251, .inl f5))] sz)) (va_Qv (fun (u : (Nat → Int32) × (Nat → Int32) × (Nat → Int32)) => True) (fun u => zB D (va_A [(kn, .inr (6, [.ref bk, .ref xl, .ref k1, .ref k2, .ref k3, .int 0, .ref k4, .ref k5, .ref k6, .ref k7, .ref k8, .ref k9, .int (-1)])), (bk, .inr (5, [.int hd, .ref xl, .ref b1, .ref b2, .ref b3, .ref b4, .int 0, .int 0, .int 0])), (b3, .inl (dA 1, 250, .inl (fun _ => 0))), (xl, .inr (2, [.ref bl, .ref no, .ref ro, .int 0])), (k1, .inl (dA 0, 250, .inl f1)), (k2, .inl (dA 1, 250, .inl f2)), (k5, .inl (dA 0, 251, .inl f5))] sz) [(kn, .inr (6, [.ref bk, .ref xl, .ref k1, .ref k2, .ref k3, .int 0, .ref k4, .ref k5, .ref k6, .ref k7, .ref k8, .ref k9, .int 0])), (bk, .inr (5, [.int hd, .ref xl, .ref b1, .ref b2, .ref b3, .ref b4, .int 0, .int 0, .int 0])), (b3, .inl (dA 1, 250, .inl (fun _ => 0))), (xl, .inr (2, [.ref bl, .ref no, .ref ro, .int 0])), (k1, .inl (dA 0, 250, .inl u.1)), (k2, .inl (dA 1, 250, .inl u.2.1)), (k5, .inl (dA 0, 251, .inl u.2.2))]) (va_A [(kn, .inr (6, [.ref bk, .ref xl, .ref k1, .ref k2, .ref k3, .int 0, .ref k4, .ref k5, .ref k6, .ref k7, .ref k8, .ref k9, .int (-1)])), (bk, .inr (5, [.int hd, .ref xl, .ref b1, .ref b2, .ref b3, .ref b4, .int 0, .int 0, .int 0])), (b3, .inl (dA 1, 250, .inl (fun _ => 0))), (xl, .inr (2, [.ref bl, .ref no, .ref ro, .int 0])), (k1, .inl (dA 0, 250, .inl f1)), (k2, .inl (dA 1, 250, .inl f2)), (k5, .inl (dA 0, 251, .inl f5))] sz)) 0 0 (va_A [(kn, .inr (6, [.ref bk, .ref xl, .ref k1, .ref k2, .ref k3, .int 0, .ref k4, .ref k5, .ref k6, .ref k7, .ref k8, .ref k9, .int (-1)])), (bk, .inr (5, [.int hd, .ref xl, .ref b1, .ref b2, .ref b3, .ref b4, .int 0, .int 0, .int 0])), (b3, .inl (dA 1, 250, .inl (fun _ => 0))), (xl, .inr (2, [.ref bl, .ref no, .ref ro, .int 0])), (k1, .inl (dA 0, 250, .inl f1)), (k2, .inl (dA 1, 250, .inl f2)), (k5, .inl (dA 0, 251, .inl f5))] sz) := by
  refine Met.ofW (cc := cX5_refresh) (maxL := 2) (ret := none) (by decide) rfl ?_
  intro p e s m args below meth c s₁ B hml hv
  obtain ⟨rfl, hsz, hP, hK, hD0, hT, hE⟩ := hv
  have hx := B.exec
  have hb := B.bytes
  have hr := B.returns
  have hw := wz_hw (atoms_spec (ws := wz yX5_refresh cX5_refresh 2 none) B.pre)
  have hown : s.vm.findClass "KindredBooks$Kin" = some m.cls := findClass_of_methodNamed B.named
  have hlocks := B.notSynchronized
  have hn := hT.1.use (args := ([.ref kn] : List Value).toArray)
  subst hsz
  have hD := hD0.self (sz := s.heap.size)
  generalize hAe : va_A [(kn, .inr (6, [.ref bk, .ref xl, .ref k1, .ref k2, .ref k3, .int 0, .ref k4, .ref k5, .ref k6, .ref k7, .ref k8, .ref k9, .int (-1)])), (bk, .inr (5, [.int hd, .ref xl, .ref b1, .ref b2, .ref b3, .ref b4, .int 0, .int 0, .int 0])), (b3, .inl (dA 1, 250, .inl (fun _ => 0))), (xl, .inr (2, [.ref bl, .ref no, .ref ro, .int 0])), (k1, .inl (dA 0, 250, .inl f1)), (k2, .inl (dA 1, 250, .inl f2)), (k5, .inl (dA 0, 251, .inl f5))] s.heap.size = A at hD hE ⊢
  have hA : ∀ q : Nat, s.heap.size ≤ q → A q := fun q h => by rw [← hAe]; exact Or.inr h
  have hS : va_S A s.heap s.heap [] := va_S.rf
  replace hP : va_P D zcl [(kn, .inr (6, [.ref bk, .ref xl, .ref k1, .ref k2, .ref k3, .int 0, .ref k4, .ref k5, .ref k6, .ref k7, .ref k8, .ref k9, .int (-1)])), (bk, .inr (5, [.int hd, .ref xl, .ref b1, .ref b2, .ref b3, .ref b4, .int 0, .int 0, .int 0])), (b3, .inl (dA 1, 250, .inl (fun _ => 0))), (xl, .inr (2, [.ref bl, .ref no, .ref ro, .int 0])), (k1, .inl (dA 0, 250, .inl f1)), (k2, .inl (dA 1, 250, .inl f2)), (k5, .inl (dA 0, 251, .inl f5))] s.heap := hP
  have hl := lv_entry ([.ref kn]) (n := 2) (Nat.le_of_ble_eq_true rfl)
  rw [lg_entry_eq]
  generalize (lg_sl ([.ref kn]) ++ List.replicate (2 - (lg_sl ([.ref kn])).length) Slot.unset).toArray = ls at hl ⊢
  replace hl : lv_has ls 2 [(0, .ref kn)] := hl
  refine lv_aload_n hx hb dX5_refresh_0 rfl (lv_at hl 0 rfl) ?_
  refine va_get (D := D) (ci := 6) (v := .int (-1)) (C := "KindredBooks$Kin") (T := T_zk6) (N := 13) hx hb hw in_zk6 hown hK hP 0 rfl rfl 12 (by decide) (hw _ mw_318) (fun _ h9 => h9) rfl dX5_refresh_1 ?_
  refine lv_aload_n hx hb dX5_refresh_4 rfl (lv_at hl 0 rfl) ?_
  refine va_get (D := D) (ci := 6) (v := .ref bk) (C := "KindredBooks$Kin") (T := T_zk6) (N := 13) hx hb hw in_zk6 hown hK hP 0 rfl rfl 0 (by decide) (hw _ mw_304) (fun _ h9 => h9) rfl dX5_refresh_5 ?_
  refine va_getN (D := D) (ci := 5) (v := .int 0) (C := "KindredBooks$Book") (T := T_zk5) (N := 9) hx hb hw in_zk5 hown hK hP 1 rfl rfl 8 (by decide) (hn _ mn_279) (fun _ h9 => h9) rfl dX5_refresh_8 ?_
  refine lv_icmp_ne (tgt := 15) hx hb dX5_refresh_11 (by decide) (fun _ => ?_) (fun zc => absurd zc (by decide))
  refine lv_aload_n hx hb dX5_refresh_15 rfl (lv_at hl 0 rfl) ?_
  refine lv_aload_n hx hb dX5_refresh_16 rfl (lv_at hl 0 rfl) ?_
  refine va_get (D := D) (ci := 6) (v := .ref bk) (C := "KindredBooks$Kin") (T := T_zk6) (N := 13) hx hb hw in_zk6 hown hK hP 0 rfl rfl 0 (by decide) (hw _ mw_304) (fun _ h9 => h9) rfl dX5_refresh_17 ?_
  refine va_getN (D := D) (ci := 5) (v := .int 0) (C := "KindredBooks$Book") (T := T_zk5) (N := 9) hx hb hw in_zk5 hown hK hP 1 rfl rfl 8 (by decide) (hn _ mn_279) (fun _ h9 => h9) rfl dX5_refresh_20 ?_
  refine va_put (D := D) (ci := 6) (v := .int 0) (ty := .int) (C := "KindredBooks$Kin") (T := T_zk6) (N := 13) hx hb hw in_zk6 ty_zk6 ok_zk6 nm_zk6 hown hK hP hD hS 0 rfl rfl 12 (by decide) (hw _ mw_318) (fun _ h9 => h9) rfl (by decide +kernel) rfl rfl (Nat.le_of_ble_eq_true rfl) dX5_refresh_23 (fun H locs hP hD hS => ?_)
  have hP : va_P D zcl [(kn, .inr (6, [.ref bk, .ref xl, .ref k1, .ref k2, .ref k3, .int 0, .ref k4, .ref k5, .ref k6, .ref k7, .ref k8, .ref k9, .int 0])), (bk, .inr (5, [.int hd, .ref xl, .ref b1, .ref b2, .ref b3, .ref b4, .int 0, .int 0, .int 0])), (b3, .inl (dA 1, 250, .inl (fun _ => 0))), (xl, .inr (2, [.ref bl, .ref no, .ref ro, .int 0])), (k1, .inl (dA 0, 250, .inl f1)), (k2, .inl (dA 1, 250, .inl f2)), (k5, .inl (dA 0, 251, .inl f5))] H := hP
  have hD : va_D A [(kn, .inr (6, [.ref bk, .ref xl, .ref k1, .ref k2, .ref k3, .int 0, .ref k4, .ref k5, .ref k6, .ref k7, .ref k8, .ref k9, .int 0])), (bk, .inr (5, [.int hd, .ref xl, .ref b1, .ref b2, .ref b3, .ref b4, .int 0, .int 0, .int 0])), (b3, .inl (dA 1, 250, .inl (fun _ => 0))), (xl, .inr (2, [.ref bl, .ref no, .ref ro, .int 0])), (k1, .inl (dA 0, 250, .inl f1)), (k2, .inl (dA 1, 250, .inl f2)), (k5, .inl (dA 0, 251, .inl f5))] := hD
  refine lv_aload_n hx hb dX5_refresh_26 rfl (lv_at hl 0 rfl) ?_
  have hPc := hP.sub (ws' := [(kn, .inr (6, [.ref bk, .ref xl, .ref k1, .ref k2, .ref k3, .int 0, .ref k4, .ref k5, .ref k6, .ref k7, .ref k8, .ref k9, .int 0])), (bk, .inr (5, [.int hd, .ref xl, .ref b1, .ref b2, .ref b3, .ref b4, .int 0, .int 0, .int 0])), (b3, .inl (dA 1, 250, .inl (fun _ => 0))), (k1, .inl (dA 0, 250, .inl f1)), (k2, .inl (dA 1, 250, .inl f2))]) [0, 1, 2, 4, 5] rfl
  have hDc := hD.sub (ws' := [(kn, .inr (6, [.ref bk, .ref xl, .ref k1, .ref k2, .ref k3, .int 0, .ref k4, .ref k5, .ref k6, .ref k7, .ref k8, .ref k9, .int 0])), (bk, .inr (5, [.int hd, .ref xl, .ref b1, .ref b2, .ref b3, .ref b4, .int 0, .int 0, .int 0])), (b3, .inl (dA 1, 250, .inl (fun _ => 0))), (k1, .inl (dA 0, 250, .inl f1)), (k2, .inl (dA 1, 250, .inl f2))]) [0, 1, 2, 4, 5] (by decide) rfl
  have hFc := va_free (wc := [(kn, .inr (6, [.ref bk, .ref xl, .ref k1, .ref k2, .ref k3, .int 0, .ref k4, .ref k5, .ref k6, .ref k7, .ref k8, .ref k9, .int 0])), (bk, .inr (5, [.int hd, .ref xl, .ref b1, .ref b2, .ref b3, .ref b4, .int 0, .int 0, .int 0])), (b3, .inl (dA 1, 250, .inl (fun _ => 0))), (k1, .inl (dA 0, 250, .inl f1)), (k2, .inl (dA 1, 250, .inl f2))]) hD hS hA [0, 1, 2, 4, 5] rfl
  refine va_callv (va_runV (As := []) (rest := []) ⟨hx, hb, hml, hown, hw⟩ (c_joinEntries0 l D dA dZ _ kn bk xl k1 k2 k3 k4 k5 k6 k7 k8 k9 b1 b2 b3 b4 hd 0 0 0 f1 f2) (z_cwV 0 hw mw_871 mw_873 ms_18 mw_10 mw_874 rfl rfl (by decide +kernel) ⟨Nat.le_of_ble_eq_true rfl, Nat.le_of_ble_eq_true rfl⟩) (zPreV hPc hK hDc hT hE hS hFc (va_recv hK hP (ci := 6) (q0 := 0) rfl rfl)) rfl rfl hl.1 rfl (lv_room (Nat.le_of_ble_eq_true rfl)) dX5_refresh_27 ⟨Nat.le_of_ble_eq_true rfl, Nat.le_of_ble_eq_true rfl⟩) hS (fun q _ h => hFc q h) hFc (fun u t H1 locs ht hvm hpo hB hz1 hk1 hS => ?_)
  obtain ⟨g1, g2⟩ := u
  try dsimp only at hpo hB
  obtain ⟨hP1, hD1⟩ := hB
  rw [ht] at hP1
  obtain ⟨hP, hD⟩ := va_join (wr := [(xl, .inr (2, [.ref bl, .ref no, .ref ro, .int 0])), (k5, .inl (dA 0, 251, .inl f5))]) (w1 := [(kn, .inr (6, [.ref bk, .ref xl, .ref k1, .ref k2, .ref k3, .int 0, .ref k4, .ref k5, .ref k6, .ref k7, .ref k8, .ref k9, .int 0])), (bk, .inr (5, [.int hd, .ref xl, .ref b1, .ref b2, .ref b3, .ref b4, .int 0, .int 0, .int 0])), (b3, .inl (dA 1, 250, .inl (fun _ => 0))), (k1, .inl (dA 0, 250, .inl g1)), (k2, .inl (dA 1, 250, .inl g2))]) hP hD [0, 1, 2, 4, 5] [3, 6] rfl rfl (by decide) (by decide) hk1 hFc hP1 hD1
  generalize H1 = H at hP hS ⊢
  have hP : va_P D zcl [(xl, .inr (2, [.ref bl, .ref no, .ref ro, .int 0])), (k5, .inl (dA 0, 251, .inl f5)), (kn, .inr (6, [.ref bk, .ref xl, .ref k1, .ref k2, .ref k3, .int 0, .ref k4, .ref k5, .ref k6, .ref k7, .ref k8, .ref k9, .int 0])), (bk, .inr (5, [.int hd, .ref xl, .ref b1, .ref b2, .ref b3, .ref b4, .int 0, .int 0, .int 0])), (b3, .inl (dA 1, 250, .inl (fun _ => 0))), (k1, .inl (dA 0, 250, .inl g1)), (k2, .inl (dA 1, 250, .inl g2))] H := hP
  have hD : va_D A [(xl, .inr (2, [.ref bl, .ref no, .ref ro, .int 0])), (k5, .inl (dA 0, 251, .inl f5)), (kn, .inr (6, [.ref bk, .ref xl, .ref k1, .ref k2, .ref k3, .int 0, .ref k4, .ref k5, .ref k6, .ref k7, .ref k8, .ref k9, .int 0])), (bk, .inr (5, [.int hd, .ref xl, .ref b1, .ref b2, .ref b3, .ref b4, .int 0, .int 0, .int 0])), (b3, .inl (dA 1, 250, .inl (fun _ => 0))), (k1, .inl (dA 0, 250, .inl g1)), (k2, .inl (dA 1, 250, .inl g2))] := hD
  refine lv_aload_n hx hb dX5_refresh_30 rfl (lv_at hl 0 rfl) ?_
  have hPc := hP.sub (ws' := [(kn, .inr (6, [.ref bk, .ref xl, .ref k1, .ref k2, .ref k3, .int 0, .ref k4, .ref k5, .ref k6, .ref k7, .ref k8, .ref k9, .int 0])), (xl, .inr (2, [.ref bl, .ref no, .ref ro, .int 0]))]) [2, 0] rfl
  have hDc := hD.sub (ws' := [(kn, .inr (6, [.ref bk, .ref xl, .ref k1, .ref k2, .ref k3, .int 0, .ref k4, .ref k5, .ref k6, .ref k7, .ref k8, .ref k9, .int 0])), (xl, .inr (2, [.ref bl, .ref no, .ref ro, .int 0]))]) [2, 0] (by decide) rfl
  have hFc := va_free (wc := [(kn, .inr (6, [.ref bk, .ref xl, .ref k1, .ref k2, .ref k3, .int 0, .ref k4, .ref k5, .ref k6, .ref k7, .ref k8, .ref k9, .int 0])), (xl, .inr (2, [.ref bl, .ref no, .ref ro, .int 0]))]) hD hS hA [2, 0] rfl
  refine va_callv (va_runV (As := []) (rest := []) ⟨hx, hb, hml, hown, hw⟩ (c_listGroups0 l D dA dZ _ kn bk xl k1 k2 k3 k4 k5 k6 k7 k8 k9 bl no ro 0 0) (z_cwV 0 hw mw_895 mw_897 ms_20 mw_10 mw_898 rfl rfl (by decide +kernel) ⟨Nat.le_of_ble_eq_true rfl, Nat.le_of_ble_eq_true rfl⟩) (zPreV hPc hK hDc hT hE hS hFc (va_recv hK hP (ci := 6) (q0 := 2) rfl rfl)) rfl rfl hl.1 rfl (lv_room (Nat.le_of_ble_eq_true rfl)) dX5_refresh_31 ⟨Nat.le_of_ble_eq_true rfl, Nat.le_of_ble_eq_true rfl⟩) hS (fun q _ h => hFc q h) hFc (fun u t H1 locs ht hvm hpo hB hz1 hk1 hS => ?_)
  obtain ⟨hP1, hD1⟩ := hB
  rw [ht] at hP1
  obtain ⟨hP, hD⟩ := va_join (wr := [(k5, .inl (dA 0, 251, .inl f5)), (bk, .inr (5, [.int hd, .ref xl, .ref b1, .ref b2, .ref b3, .ref b4, .int 0, .int 0, .int 0])), (b3, .inl (dA 1, 250, .inl (fun _ => 0))), (k1, .inl (dA 0, 250, .inl g1)), (k2, .inl (dA 1, 250, .inl g2))]) (w1 := [(kn, .inr (6, [.ref bk, .ref xl, .ref k1, .ref k2, .ref k3, .int 0, .ref k4, .ref k5, .ref k6, .ref k7, .ref k8, .ref k9, .int 0])), (xl, .inr (2, [.ref bl, .ref no, .ref ro, .int 0]))]) hP hD [2, 0] [1, 3, 4, 5, 6] rfl rfl (by decide) (by decide) hk1 hFc hP1 hD1
  generalize H1 = H at hP hS ⊢
  have hP : va_P D zcl [(k5, .inl (dA 0, 251, .inl f5)), (bk, .inr (5, [.int hd, .ref xl, .ref b1, .ref b2, .ref b3, .ref b4, .int 0, .int 0, .int 0])), (b3, .inl (dA 1, 250, .inl (fun _ => 0))), (k1, .inl (dA 0, 250, .inl g1)), (k2, .inl (dA 1, 250, .inl g2)), (kn, .inr (6, [.ref bk, .ref xl, .ref k1, .ref k2, .ref k3, .int 0, .ref k4, .ref k5, .ref k6, .ref k7, .ref k8, .ref k9, .int 0])), (xl, .inr (2, [.ref bl, .ref no, .ref ro, .int 0]))] H := hP
  have hD : va_D A [(k5, .inl (dA 0, 251, .inl f5)), (bk, .inr (5, [.int hd, .ref xl, .ref b1, .ref b2, .ref b3, .ref b4, .int 0, .int 0, .int 0])), (b3, .inl (dA 1, 250, .inl (fun _ => 0))), (k1, .inl (dA 0, 250, .inl g1)), (k2, .inl (dA 1, 250, .inl g2)), (kn, .inr (6, [.ref bk, .ref xl, .ref k1, .ref k2, .ref k3, .int 0, .ref k4, .ref k5, .ref k6, .ref k7, .ref k8, .ref k9, .int 0])), (xl, .inr (2, [.ref bl, .ref no, .ref ro, .int 0]))] := hD
  refine lv_aload_n hx hb dX5_refresh_34 rfl (lv_at hl 0 rfl) ?_
  have hPc := hP.sub (ws' := [(kn, .inr (6, [.ref bk, .ref xl, .ref k1, .ref k2, .ref k3, .int 0, .ref k4, .ref k5, .ref k6, .ref k7, .ref k8, .ref k9, .int 0])), (bk, .inr (5, [.int hd, .ref xl, .ref b1, .ref b2, .ref b3, .ref b4, .int 0, .int 0, .int 0])), (xl, .inr (2, [.ref bl, .ref no, .ref ro, .int 0])), (k5, .inl (dA 0, 251, .inl f5))]) [5, 1, 6, 0] rfl
  have hDc := hD.sub (ws' := [(kn, .inr (6, [.ref bk, .ref xl, .ref k1, .ref k2, .ref k3, .int 0, .ref k4, .ref k5, .ref k6, .ref k7, .ref k8, .ref k9, .int 0])), (bk, .inr (5, [.int hd, .ref xl, .ref b1, .ref b2, .ref b3, .ref b4, .int 0, .int 0, .int 0])), (xl, .inr (2, [.ref bl, .ref no, .ref ro, .int 0])), (k5, .inl (dA 0, 251, .inl f5))]) [5, 1, 6, 0] (by decide) rfl
  have hFc := va_free (wc := [(kn, .inr (6, [.ref bk, .ref xl, .ref k1, .ref k2, .ref k3, .int 0, .ref k4, .ref k5, .ref k6, .ref k7, .ref k8, .ref k9, .int 0])), (bk, .inr (5, [.int hd, .ref xl, .ref b1, .ref b2, .ref b3, .ref b4, .int 0, .int 0, .int 0])), (xl, .inr (2, [.ref bl, .ref no, .ref ro, .int 0])), (k5, .inl (dA 0, 251, .inl f5))]) hD hS hA [5, 1, 6, 0] rfl
  refine va_callv (va_runV (As := []) (rest := []) ⟨hx, hb, hml, hown, hw⟩ (c_placeLines0 l D dA dZ _ kn bk xl k1 k2 k3 k4 k5 k6 k7 k8 k9 b1 b2 b3 b4 bl no ro hd 0 0 0 f5) (z_cwV 0 hw mw_899 mw_901 ms_21 mw_10 mw_902 rfl rfl (by decide +kernel) ⟨Nat.le_of_ble_eq_true rfl, Nat.le_of_ble_eq_true rfl⟩) (zPreV hPc hK hDc hT hE hS hFc (va_recv hK hP (ci := 6) (q0 := 5) rfl rfl)) rfl rfl hl.1 rfl (lv_room (Nat.le_of_ble_eq_true rfl)) dX5_refresh_35 ⟨Nat.le_of_ble_eq_true rfl, Nat.le_of_ble_eq_true rfl⟩) hS (fun q _ h => hFc q h) hFc (fun u t H1 locs ht hvm hpo hB hz1 hk1 hS => ?_)
  obtain ⟨g5, rfl⟩ : ∃ z, z = u := ⟨_, rfl⟩
  try dsimp only at hpo hB
  obtain ⟨hP1, hD1⟩ := hB
  rw [ht] at hP1
  obtain ⟨hP, hD⟩ := va_join (wr := [(b3, .inl (dA 1, 250, .inl (fun _ => 0))), (k1, .inl (dA 0, 250, .inl g1)), (k2, .inl (dA 1, 250, .inl g2))]) (w1 := [(kn, .inr (6, [.ref bk, .ref xl, .ref k1, .ref k2, .ref k3, .int 0, .ref k4, .ref k5, .ref k6, .ref k7, .ref k8, .ref k9, .int 0])), (bk, .inr (5, [.int hd, .ref xl, .ref b1, .ref b2, .ref b3, .ref b4, .int 0, .int 0, .int 0])), (xl, .inr (2, [.ref bl, .ref no, .ref ro, .int 0])), (k5, .inl (dA 0, 251, .inl g5))]) hP hD [5, 1, 6, 0] [2, 3, 4] rfl rfl (by decide) (by decide) hk1 hFc hP1 hD1
  generalize H1 = H at hP hS ⊢
  have hP : va_P D zcl [(b3, .inl (dA 1, 250, .inl (fun _ => 0))), (k1, .inl (dA 0, 250, .inl g1)), (k2, .inl (dA 1, 250, .inl g2)), (kn, .inr (6, [.ref bk, .ref xl, .ref k1, .ref k2, .ref k3, .int 0, .ref k4, .ref k5, .ref k6, .ref k7, .ref k8, .ref k9, .int 0])), (bk, .inr (5, [.int hd, .ref xl, .ref b1, .ref b2, .ref b3, .ref b4, .int 0, .int 0, .int 0])), (xl, .inr (2, [.ref bl, .ref no, .ref ro, .int 0])), (k5, .inl (dA 0, 251, .inl g5))] H := hP
  have hD : va_D A [(b3, .inl (dA 1, 250, .inl (fun _ => 0))), (k1, .inl (dA 0, 250, .inl g1)), (k2, .inl (dA 1, 250, .inl g2)), (kn, .inr (6, [.ref bk, .ref xl, .ref k1, .ref k2, .ref k3, .int 0, .ref k4, .ref k5, .ref k6, .ref k7, .ref k8, .ref k9, .int 0])), (bk, .inr (5, [.int hd, .ref xl, .ref b1, .ref b2, .ref b3, .ref b4, .int 0, .int 0, .int 0])), (xl, .inr (2, [.ref bl, .ref no, .ref ro, .int 0])), (k5, .inl (dA 0, 251, .inl g5))] := hD
  refine lv_iconst (v := 0) hx hb dX5_refresh_38 (by decide) ?_
  refine lv_istore_n (lv' := [(1, .int 0), (0, .ref kn)]) hx hb dX5_refresh_39 rfl hl (by decide) rfl (fun ls hl => ?_)
  refine lv_iload_n hx hb dX5_refresh_40 rfl (lv_at hl 0 rfl) ?_
  refine lv_aload_n hx hb dX5_refresh_41 rfl (lv_at hl 1 rfl) ?_
  refine va_get (D := D) (ci := 6) (v := .int 0) (C := "KindredBooks$Kin") (T := T_zk6) (N := 13) hx hb hw in_zk6 hown hK hP 3 rfl rfl 5 (by decide) (hw _ mw_309) (fun _ h9 => h9) rfl dX5_refresh_42 ?_
  refine lv_icmp_ge (tgt := 63) hx hb dX5_refresh_45 (by decide) (fun _ => ?_) (fun zc => absurd (by decide) zc)
  have hP9 := hP.sub (ws' := [(kn, .inr (6, [.ref bk, .ref xl, .ref k1, .ref k2, .ref k3, .int 0, .ref k4, .ref k5, .ref k6, .ref k7, .ref k8, .ref k9, .int 0])), (bk, .inr (5, [.int hd, .ref xl, .ref b1, .ref b2, .ref b3, .ref b4, .int 0, .int 0, .int 0])), (b3, .inl (dA 1, 250, .inl (fun _ => 0))), (xl, .inr (2, [.ref bl, .ref no, .ref ro, .int 0])), (k1, .inl (dA 0, 250, .inl g1)), (k2, .inl (dA 1, 250, .inl g2)), (k5, .inl (dA 0, 251, .inl g5))]) [3, 4, 0, 5, 1, 2, 6] rfl
  have hD9 := hD.sub (ws' := [(kn, .inr (6, [.ref bk, .ref xl, .ref k1, .ref k2, .ref k3, .int 0, .ref k4, .ref k5, .ref k6, .ref k7, .ref k8, .ref k9, .int 0])), (bk, .inr (5, [.int hd, .ref xl, .ref b1, .ref b2, .ref b3, .ref b4, .int 0, .int 0, .int 0])), (b3, .inl (dA 1, 250, .inl (fun _ => 0))), (xl, .inr (2, [.ref bl, .ref no, .ref ro, .int 0])), (k1, .inl (dA 0, 250, .inl g1)), (k2, .inl (dA 1, 250, .inl g2)), (k5, .inl (dA 0, 251, .inl g5))]) [3, 4, 0, 5, 1, 2, 6] (by decide) rfl
  exact W.vret hx hb hr (fun t ht hW => ⟨⟨(g1, g2, g5), rfl, trivial, by rw [ht]; exact hP9, hD9⟩, hS.F ht⟩) hS.2.2 dX5_refresh_63
set_option maxHeartbeats 4000000 in
set_option maxRecDepth 100000 in
/-- kinOf(i) of a fresh book -/
theorem c_kinOf (l : Launch) (D : va_G) (dA : Nat → ClassId) (dZ : Nat → Nat) (sz : Nat) (ax : Nat) (xt : Nat) (xp : Nat) (xs : Nat) (xl : Nat) (xb : Nat) (xk : Nat) (xm : Nat) (xq : Nat) (xg : Nat) (xf : Nat) (xe : Nat) (i : Nat) (fk : Nat → Option Nat) (kn : Nat) (bk : Nat) (k1 : Nat) (k2 : Nat) (k3 : Nat) (k4 : Nat) (k5 : Nat) (k6 : Nat) (k7 : Nat) (k8 : Nat) (k9 : Nat) (b1 : Nat) (b2 : Nat) (b3 : Nat) (b4 : Nat) (bl : Nat) (no : Nat) (ro : Nat) (hd : Int32) (f1 : Nat → Int32) (f2 : Nat → Int32) (f5 : Nat → Int32) (hi : i < 3) (hk : fk i = some kn) : Met l yX11_kinOf (wz yX11_kinOf cX11_kinOf 2 (some (.object "KindredBooks$Kin"))) ({ frames := 6, cells := 0, slots := 0, locals := 160 } : Room) (va_Pc [.ref ax, .int (nI i)] (zP D dA dZ [(ax, .inr (0, [.ref xt, .ref xp, .ref xs, .ref xl, .ref xb, .ref xk, .ref xm, .ref xq, .ref xg, .ref xf, .ref xe, .int 49])), (xk, .inl (dA 7, 3, .inr (.inr (.inr (.inr fk))))), (kn, .inr (6, [.ref bk, .ref xl, .ref k1, .ref k2, .ref k3, .int 0, .ref k4, .ref k5, .ref k6, .ref k7, .ref k8, .ref k9, .int (-1)])), (bk, .inr (5, [.int hd, .ref xl, .ref b1, .ref b2, .ref b3, .ref b4, .int 0, .int 0, .int 0])), (b3, .inl (dA 1, 250, .inl (fun _ => 0))), (xl, .inr (2, [.ref bl, .ref no, .ref ro, .int 0])), (k1, .inl (dA 0, 250, .inl f1)), (k2, .inl (dA 1, 250, .inl f2)), (k5, .inl (dA 0, 251, .inl f5))] sz)) (va_Qq (fun (r : Option Nat) (u : (Nat → Int32) × (Nat → Int32) × (Nat → Int32)) => r = (some kn)) (fun u => zB D (va_A [(ax, .inr (0, [.ref xt, .ref xp, .ref xs, .ref xl, .ref xb, .ref xk, .ref xm, .ref xq, .ref xg, .ref xf, .ref xe, .int 49])), (xk, .inl (dA 7, 3, .inr (.inr (.inr (.inr fk))))), (kn, .inr (6, [.ref bk, .ref xl, .ref k1, .ref k2, .ref k3, .int 0, .ref k4, .ref k5, .ref k6, .ref k7, .ref k8, .ref k9, .int (-1)])), (bk, .inr (5, [.int hd, .ref xl, .ref b1, .ref b2, .ref b3, .ref b4, .int 0, .int 0, .int 0])), (b3, .inl (dA 1, 250, .inl (fun _ => 0))), (xl, .inr (2, [.ref bl, .ref no, .ref ro, .int 0])), (k1, .inl (dA 0, 250, .inl f1)), (k2, .inl (dA 1, 250, .inl f2)), (k5, .inl (dA 0, 251, .inl f5))] sz) [(ax, .inr (0, [.ref xt, .ref xp, .ref xs, .ref xl, .ref xb, .ref xk, .ref xm, .ref xq, .ref xg, .ref xf, .ref xe, .int 49])), (xk, .inl (dA 7, 3, .inr (.inr (.inr (.inr fk))))), (kn, .inr (6, [.ref bk, .ref xl, .ref k1, .ref k2, .ref k3, .int 0, .ref k4, .ref k5, .ref k6, .ref k7, .ref k8, .ref k9, .int 0])), (bk, .inr (5, [.int hd, .ref xl, .ref b1, .ref b2, .ref b3, .ref b4, .int 0, .int 0, .int 0])), (b3, .inl (dA 1, 250, .inl (fun _ => 0))), (xl, .inr (2, [.ref bl, .ref no, .ref ro, .int 0])), (k1, .inl (dA 0, 250, .inl u.1)), (k2, .inl (dA 1, 250, .inl u.2.1)), (k5, .inl (dA 0, 251, .inl u.2.2))]) (va_A [(ax, .inr (0, [.ref xt, .ref xp, .ref xs, .ref xl, .ref xb, .ref xk, .ref xm, .ref xq, .ref xg, .ref xf, .ref xe, .int 49])), (xk, .inl (dA 7, 3, .inr (.inr (.inr (.inr fk))))), (kn, .inr (6, [.ref bk, .ref xl, .ref k1, .ref k2, .ref k3, .int 0, .ref k4, .ref k5, .ref k6, .ref k7, .ref k8, .ref k9, .int (-1)])), (bk, .inr (5, [.int hd, .ref xl, .ref b1, .ref b2, .ref b3, .ref b4, .int 0, .int 0, .int 0])), (b3, .inl (dA 1, 250, .inl (fun _ => 0))), (xl, .inr (2, [.ref bl, .ref no, .ref ro, .int 0])), (k1, .inl (dA 0, 250, .inl f1)), (k2, .inl (dA 1, 250, .inl f2)), (k5, .inl (dA 0, 251, .inl f5))] sz)) 0 0 (va_A [(ax, .inr (0, [.ref xt, .ref xp, .ref xs, .ref xl, .ref xb, .ref xk, .ref xm, .ref xq, .ref xg, .ref xf, .ref xe, .int 49])), (xk, .inl (dA 7, 3, .inr (.inr (.inr (.inr fk))))), (kn, .inr (6, [.ref bk, .ref xl, .ref k1, .ref k2, .ref k3, .int 0, .ref k4, .ref k5, .ref k6, .ref k7, .ref k8, .ref k9, .int (-1)])), (bk, .inr (5, [.int hd, .ref xl, .ref b1, .ref b2, .ref b3, .ref b4, .int 0, .int 0, .int 0])), (b3, .inl (dA 1, 250, .inl (fun _ => 0))), (xl, .inr (2, [.ref bl, .ref no, .ref ro, .int 0])), (k1, .inl (dA 0, 250, .inl f1)), (k2, .inl (dA 1, 250, .inl f2)), (k5, .inl (dA 0, 251, .inl f5))] sz) := by
  refine Met.ofW (cc := cX11_kinOf) (maxL := 2) (ret := (some (.object "KindredBooks$Kin"))) (by decide) rfl ?_
  intro p e s m args below meth c s₁ B hml hv
  obtain ⟨rfl, hsz, hP, hK, hD0, hT, hE⟩ := hv
  have hx := B.exec
  have hb := B.bytes
  have hr := B.returns
  have hw := wz_hw (atoms_spec (ws := wz yX11_kinOf cX11_kinOf 2 (some (.object "KindredBooks$Kin"))) B.pre)
  have hown : s.vm.findClass "KindredBooks" = some m.cls := findClass_of_methodNamed B.named
  have hlocks := B.notSynchronized
  have hn := hT.1.use (args := ([.ref ax, .int (nI i)] : List Value).toArray)
  subst hsz
  have hD := hD0.self (sz := s.heap.size)
  generalize hAe : va_A [(ax, .inr (0, [.ref xt, .ref xp, .ref xs, .ref xl, .ref xb, .ref xk, .ref xm, .ref xq, .ref xg, .ref xf, .ref xe, .int 49])), (xk, .inl (dA 7, 3, .inr (.inr (.inr (.inr fk))))), (kn, .inr (6, [.ref bk, .ref xl, .ref k1, .ref k2, .ref k3, .int 0, .ref k4, .ref k5, .ref k6, .ref k7, .ref k8, .ref k9, .int (-1)])), (bk, .inr (5, [.int hd, .ref xl, .ref b1, .ref b2, .ref b3, .ref b4, .int 0, .int 0, .int 0])), (b3, .inl (dA 1, 250, .inl (fun _ => 0))), (xl, .inr (2, [.ref bl, .ref no, .ref ro, .int 0])), (k1, .inl (dA 0, 250, .inl f1)), (k2, .inl (dA 1, 250, .inl f2)), (k5, .inl (dA 0, 251, .inl f5))] s.heap.size = A at hD hE ⊢
  have hA : ∀ q : Nat, s.heap.size ≤ q → A q := fun q h => by rw [← hAe]; exact Or.inr h
  have hS : va_S A s.heap s.heap [] := va_S.rf
  replace hP : va_P D zcl [(ax, .inr (0, [.ref xt, .ref xp, .ref xs, .ref xl, .ref xb, .ref xk, .ref xm, .ref xq, .ref xg, .ref xf, .ref xe, .int 49])), (xk, .inl (dA 7, 3, .inr (.inr (.inr (.inr fk))))), (kn, .inr (6, [.ref bk, .ref xl, .ref k1, .ref k2, .ref k3, .int 0, .ref k4, .ref k5, .ref k6, .ref k7, .ref k8, .ref k9, .int (-1)])), (bk, .inr (5, [.int hd, .ref xl, .ref b1, .ref b2, .ref b3, .ref b4, .int 0, .int 0, .int 0])), (b3, .inl (dA 1, 250, .inl (fun _ => 0))), (xl, .inr (2, [.ref bl, .ref no, .ref ro, .int 0])), (k1, .inl (dA 0, 250, .inl f1)), (k2, .inl (dA 1, 250, .inl f2)), (k5, .inl (dA 0, 251, .inl f5))] s.heap := hP
  have hl := lv_entry ([.ref ax, .int (nI i)]) (n := 2) (Nat.le_of_ble_eq_true rfl)
  rw [lg_entry_eq]
  generalize (lg_sl ([.ref ax, .int (nI i)]) ++ List.replicate (2 - (lg_sl ([.ref ax, .int (nI i)])).length) Slot.unset).toArray = ls at hl ⊢
  replace hl : lv_has ls 2 [(0, .ref ax), (1, .int (nI i))] := hl
  refine lv_iload_n hx hb dX11_kinOf_0 rfl (lv_at hl 1 rfl) ?_
  refine lv_if_lt (tgt := 9) hx hb dX11_kinOf_1 (by decide) (fun zc => absurd zc (nI_pos (by omega))) (fun _ => ?_)
  refine lv_iload_n hx hb dX11_kinOf_4 rfl (lv_at hl 1 rfl) ?_
  refine lv_iconst (v := 3) hx hb dX11_kinOf_5 (by decide) ?_
  refine lv_icmp_lt (tgt := 20) hx hb dX11_kinOf_6 (by decide) (fun _ => ?_) (fun zc => absurd (z3 hi) zc)
  refine lv_aload_n hx hb dX11_kinOf_20 rfl (lv_at hl 0 rfl) ?_
  refine va_get (D := D) (ci := 0) (v := .ref xk) (C := "KindredBooks") (T := T_zk0) (N := 12) hx hb hw in_zk0 hown hK hP 0 rfl rfl 5 (by decide) (hw _ mw_351) (fun _ h9 => h9) rfl dX11_kinOf_21 ?_
  refine lv_iload_n hx hb dX11_kinOf_24 rfl (lv_at hl 1 rfl) ?_
  refine va_aldq hx hb hK hP 1 7 rfl rfl (vp_in_nI hi (by omega)) dX11_kinOf_25 ?_
  refine W.eq (g2 := F0 m 26 ls [.ref kn]) (by rw [nI_clamp (by omega), hk]; rfl) ?_
  have hPc := hP.sub (ws' := [(kn, .inr (6, [.ref bk, .ref xl, .ref k1, .ref k2, .ref k3, .int 0, .ref k4, .ref k5, .ref k6, .ref k7, .ref k8, .ref k9, .int (-1)])), (bk, .inr (5, [.int hd, .ref xl, .ref b1, .ref b2, .ref b3, .ref b4, .int 0, .int 0, .int 0])), (b3, .inl (dA 1, 250, .inl (fun _ => 0))), (xl, .inr (2, [.ref bl, .ref no, .ref ro, .int 0])), (k1, .inl (dA 0, 250, .inl f1)), (k2, .inl (dA 1, 250, .inl f2)), (k5, .inl (dA 0, 251, .inl f5))]) [2, 3, 4, 5, 6, 7, 8] rfl
  have hDc := hD.sub (ws' := [(kn, .inr (6, [.ref bk, .ref xl, .ref k1, .ref k2, .ref k3, .int 0, .ref k4, .ref k5, .ref k6, .ref k7, .ref k8, .ref k9, .int (-1)])), (bk, .inr (5, [.int hd, .ref xl, .ref b1, .ref b2, .ref b3, .ref b4, .int 0, .int 0, .int 0])), (b3, .inl (dA 1, 250, .inl (fun _ => 0))), (xl, .inr (2, [.ref bl, .ref no, .ref ro, .int 0])), (k1, .inl (dA 0, 250, .inl f1)), (k2, .inl (dA 1, 250, .inl f2)), (k5, .inl (dA 0, 251, .inl f5))]) [2, 3, 4, 5, 6, 7, 8] (by decide) rfl
  have hFc := va_free (wc := [(kn, .inr (6, [.ref bk, .ref xl, .ref k1, .ref k2, .ref k3, .int 0, .ref k4, .ref k5, .ref k6, .ref k7, .ref k8, .ref k9, .int (-1)])), (bk, .inr (5, [.int hd, .ref xl, .ref b1, .ref b2, .ref b3, .ref b4, .int 0, .int 0, .int 0])), (b3, .inl (dA 1, 250, .inl (fun _ => 0))), (xl, .inr (2, [.ref bl, .ref no, .ref ro, .int 0])), (k1, .inl (dA 0, 250, .inl f1)), (k2, .inl (dA 1, 250, .inl f2)), (k5, .inl (dA 0, 251, .inl f5))]) hD hS hA [2, 3, 4, 5, 6, 7, 8] rfl
  refine va_callv (va_runV (As := []) (rest := []) ⟨hx, hb, hml, hown, hw⟩ (c_refresh0 l D dA dZ _ kn bk xl k1 k2 k3 k4 k5 k6 k7 k8 k9 b1 b2 b3 b4 bl no ro hd f1 f2 f5) (z_cwV 0 hw mw_867 mw_868 mw_869 mw_10 mw_870 rfl rfl (by decide +kernel) ⟨Nat.le_of_ble_eq_true rfl, Nat.le_of_ble_eq_true rfl⟩) (zPreV hPc hK hDc hT hE hS hFc (va_recv hK hP (ci := 6) (q0 := 2) rfl rfl)) rfl rfl hl.1 rfl (lv_room (Nat.le_of_ble_eq_true rfl)) dX11_kinOf_26 ⟨Nat.le_of_ble_eq_true rfl, Nat.le_of_ble_eq_true rfl⟩) hS (fun q _ h => hFc q h) hFc (fun u t H1 locs ht hvm hpo hB hz1 hk1 hS => ?_)
  obtain ⟨g1, g2, g5⟩ := u
  try dsimp only at hpo hB
  obtain ⟨hP1, hD1⟩ := hB
  rw [ht] at hP1
  obtain ⟨hP, hD⟩ := va_join (wr := [(ax, .inr (0, [.ref xt, .ref xp, .ref xs, .ref xl, .ref xb, .ref xk, .ref xm, .ref xq, .ref xg, .ref xf, .ref xe, .int 49])), (xk, .inl (dA 7, 3, .inr (.inr (.inr (.inr fk)))))]) (w1 := [(kn, .inr (6, [.ref bk, .ref xl, .ref k1, .ref k2, .ref k3, .int 0, .ref k4, .ref k5, .ref k6, .ref k7, .ref k8, .ref k9, .int 0])), (bk, .inr (5, [.int hd, .ref xl, .ref b1, .ref b2, .ref b3, .ref b4, .int 0, .int 0, .int 0])), (b3, .inl (dA 1, 250, .inl (fun _ => 0))), (xl, .inr (2, [.ref bl, .ref no, .ref ro, .int 0])), (k1, .inl (dA 0, 250, .inl g1)), (k2, .inl (dA 1, 250, .inl g2)), (k5, .inl (dA 0, 251, .inl g5))]) hP hD [2, 3, 4, 5, 6, 7, 8] [0, 1] rfl rfl (by decide) (by decide) hk1 hFc hP1 hD1
  generalize H1 = H at hP hS ⊢
  have hP : va_P D zcl [(ax, .inr (0, [.ref xt, .ref xp, .ref xs, .ref xl, .ref xb, .ref xk, .ref xm, .ref xq, .ref xg, .ref xf, .ref xe, .int 49])), (xk, .inl (dA 7, 3, .inr (.inr (.inr (.inr fk))))), (kn, .inr (6, [.ref bk, .ref xl, .ref k1, .ref k2, .ref k3, .int 0, .ref k4, .ref k5, .ref k6, .ref k7, .ref k8, .ref k9, .int 0])), (bk, .inr (5, [.int hd, .ref xl, .ref b1, .ref b2, .ref b3, .ref b4, .int 0, .int 0, .int 0])), (b3, .inl (dA 1, 250, .inl (fun _ => 0))), (xl, .inr (2, [.ref bl, .ref no, .ref ro, .int 0])), (k1, .inl (dA 0, 250, .inl g1)), (k2, .inl (dA 1, 250, .inl g2)), (k5, .inl (dA 0, 251, .inl g5))] H := hP
  have hD : va_D A [(ax, .inr (0, [.ref xt, .ref xp, .ref xs, .ref xl, .ref xb, .ref xk, .ref xm, .ref xq, .ref xg, .ref xf, .ref xe, .int 49])), (xk, .inl (dA 7, 3, .inr (.inr (.inr (.inr fk))))), (kn, .inr (6, [.ref bk, .ref xl, .ref k1, .ref k2, .ref k3, .int 0, .ref k4, .ref k5, .ref k6, .ref k7, .ref k8, .ref k9, .int 0])), (bk, .inr (5, [.int hd, .ref xl, .ref b1, .ref b2, .ref b3, .ref b4, .int 0, .int 0, .int 0])), (b3, .inl (dA 1, 250, .inl (fun _ => 0))), (xl, .inr (2, [.ref bl, .ref no, .ref ro, .int 0])), (k1, .inl (dA 0, 250, .inl g1)), (k2, .inl (dA 1, 250, .inl g2)), (k5, .inl (dA 0, 251, .inl g5))] := hD
  refine lv_aload_n hx hb dX11_kinOf_29 rfl (lv_at hl 0 rfl) ?_
  refine va_get (D := D) (ci := 0) (v := .ref xk) (C := "KindredBooks") (T := T_zk0) (N := 12) hx hb hw in_zk0 hown hK hP 0 rfl rfl 5 (by decide) (hw _ mw_351) (fun _ h9 => h9) rfl dX11_kinOf_30 ?_
  refine lv_iload_n hx hb dX11_kinOf_33 rfl (lv_at hl 1 rfl) ?_
  refine va_aldq hx hb hK hP 1 7 rfl rfl (vp_in_nI hi (by omega)) dX11_kinOf_34 ?_
  refine W.eq (g2 := F0 m 35 ls [.ref kn]) (by rw [nI_clamp (by omega), hk]; rfl) ?_
  have hP9 := hP.sub (ws' := [(ax, .inr (0, [.ref xt, .ref xp, .ref xs, .ref xl, .ref xb, .ref xk, .ref xm, .ref xq, .ref xg, .ref xf, .ref xe, .int 49])), (xk, .inl (dA 7, 3, .inr (.inr (.inr (.inr fk))))), (kn, .inr (6, [.ref bk, .ref xl, .ref k1, .ref k2, .ref k3, .int 0, .ref k4, .ref k5, .ref k6, .ref k7, .ref k8, .ref k9, .int 0])), (bk, .inr (5, [.int hd, .ref xl, .ref b1, .ref b2, .ref b3, .ref b4, .int 0, .int 0, .int 0])), (b3, .inl (dA 1, 250, .inl (fun _ => 0))), (xl, .inr (2, [.ref bl, .ref no, .ref ro, .int 0])), (k1, .inl (dA 0, 250, .inl g1)), (k2, .inl (dA 1, 250, .inl g2)), (k5, .inl (dA 0, 251, .inl g5))]) [0, 1, 2, 3, 4, 5, 6, 7, 8] rfl
  have hD9 := hD.sub (ws' := [(ax, .inr (0, [.ref xt, .ref xp, .ref xs, .ref xl, .ref xb, .ref xk, .ref xm, .ref xq, .ref xg, .ref xf, .ref xe, .int 49])), (xk, .inl (dA 7, 3, .inr (.inr (.inr (.inr fk))))), (kn, .inr (6, [.ref bk, .ref xl, .ref k1, .ref k2, .ref k3, .int 0, .ref k4, .ref k5, .ref k6, .ref k7, .ref k8, .ref k9, .int 0])), (bk, .inr (5, [.int hd, .ref xl, .ref b1, .ref b2, .ref b3, .ref b4, .int 0, .int 0, .int 0])), (b3, .inl (dA 1, 250, .inl (fun _ => 0))), (xl, .inr (2, [.ref bl, .ref no, .ref ro, .int 0])), (k1, .inl (dA 0, 250, .inl g1)), (k2, .inl (dA 1, 250, .inl g2)), (k5, .inl (dA 0, 251, .inl g5))]) [0, 1, 2, 3, 4, 5, 6, 7, 8] (by decide) rfl
  exact W.aret (v := .ref kn) hx hb hr (Or.inl ⟨_, rfl⟩) (Or.inr ⟨_, rfl⟩) (fun t ht hW => ⟨⟨(some kn), (g1, g2, g5), rfl, rfl, by rw [ht]; exact hP9, hD9⟩, hS.F ht⟩) hS.2.2 dX11_kinOf_35
set_option maxHeartbeats 4000000 in
set_option maxRecDepth 100000 in
/-- clearText on a fresh object: ok -/
theorem c_clearText_ok (l : Launch) (D : va_G) (dA : Nat → ClassId) (dZ : Nat → Nat) (sz : Nat) (ax : Nat) (xt : Nat) (xp : Nat) (xs : Nat) (xl : Nat) (xb : Nat) (xk : Nat) (xm : Nat) (xq : Nat) (xg : Nat) (xf : Nat) (xe : Nat) (tb : Nat) : Met l yX11_clearText (wz yX11_clearText cX11_clearText 2 (some .int)) ({ frames := 14, cells := 0, slots := 0, locals := 400 } : Room) (va_Pc [.ref ax] (zP D dA dZ [(ax, .inr (0, [.ref xt, .ref xp, .ref xs, .ref xl, .ref xb, .ref xk, .ref xm, .ref xq, .ref xg, .ref xf, .ref xe, .int 49])), (xt, .inr (1, [.ref tb, .int 0]))] sz)) (va_Qi (fun (r : Int32) (_ : Unit) => r = 0) (fun _ => zB D (va_A [(ax, .inr (0, [.ref xt, .ref xp, .ref xs, .ref xl, .ref xb, .ref xk, .ref xm, .ref xq, .ref xg, .ref xf, .ref xe, .int 49])), (xt, .inr (1, [.ref tb, .int 0]))] sz) [(ax, .inr (0, [.ref xt, .ref xp, .ref xs, .ref xl, .ref xb, .ref xk, .ref xm, .ref xq, .ref xg, .ref xf, .ref xe, .int 49])), (xt, .inr (1, [.ref tb, .int 0]))]) (va_A [(ax, .inr (0, [.ref xt, .ref xp, .ref xs, .ref xl, .ref xb, .ref xk, .ref xm, .ref xq, .ref xg, .ref xf, .ref xe, .int 49])), (xt, .inr (1, [.ref tb, .int 0]))] sz)) 0 0 (va_A [(ax, .inr (0, [.ref xt, .ref xp, .ref xs, .ref xl, .ref xb, .ref xk, .ref xm, .ref xq, .ref xg, .ref xf, .ref xe, .int 49])), (xt, .inr (1, [.ref tb, .int 0]))] sz) := by
  refine Met.ofW (cc := cX11_clearText) (maxL := 2) (ret := (some .int)) (by decide) rfl ?_
  intro p e s m args below meth c s₁ B hml hv
  obtain ⟨rfl, hsz, hP, hK, hD0, hT, hE⟩ := hv
  have hx := B.exec
  have hb := B.bytes
  have hr := B.returns
  have hw := wz_hw (atoms_spec (ws := wz yX11_clearText cX11_clearText 2 (some .int)) B.pre)
  have hown : s.vm.findClass "KindredBooks" = some m.cls := findClass_of_methodNamed B.named
  have hlocks := B.notSynchronized
  have hn := hT.1.use (args := ([.ref ax] : List Value).toArray)
  subst hsz
  have hD := hD0.self (sz := s.heap.size)
  generalize hAe : va_A [(ax, .inr (0, [.ref xt, .ref xp, .ref xs, .ref xl, .ref xb, .ref xk, .ref xm, .ref xq, .ref xg, .ref xf, .ref xe, .int 49])), (xt, .inr (1, [.ref tb, .int 0]))] s.heap.size = A at hD hE ⊢
  have hA : ∀ q : Nat, s.heap.size ≤ q → A q := fun q h => by rw [← hAe]; exact Or.inr h
  have hS : va_S A s.heap s.heap [] := va_S.rf
  replace hP : va_P D zcl [(ax, .inr (0, [.ref xt, .ref xp, .ref xs, .ref xl, .ref xb, .ref xk, .ref xm, .ref xq, .ref xg, .ref xf, .ref xe, .int 49])), (xt, .inr (1, [.ref tb, .int 0]))] s.heap := hP
  have hl := lv_entry ([.ref ax]) (n := 2) (Nat.le_of_ble_eq_true rfl)
  rw [lg_entry_eq]
  generalize (lg_sl ([.ref ax]) ++ List.replicate (2 - (lg_sl ([.ref ax])).length) Slot.unset).toArray = ls at hl ⊢
  replace hl : lv_has ls 2 [(0, .ref ax)] := hl
  refine lv_aload_n hx hb dX11_clearText_0 rfl (lv_at hl 0 rfl) ?_
  refine va_get (D := D) (ci := 0) (v := .ref xt) (C := "KindredBooks") (T := T_zk0) (N := 12) hx hb hw in_zk0 hown hK hP 0 rfl rfl 0 (by decide) (hw _ mw_346) (fun _ h9 => h9) rfl dX11_clearText_1 ?_
  refine va_getN (D := D) (ci := 1) (v := .int 0) (C := "KindredBooks$Text") (T := T_zk1) (N := 2) hx hb hw in_zk1 hown hK hP 1 rfl rfl 1 (by decide) (hn _ mn_59) (fun _ h9 => h9) rfl dX11_clearText_4 ?_
  refine lv_istore_n (lv' := [(1, .int 0), (0, .ref ax)]) hx hb dX11_clearText_7 rfl hl (by decide) rfl (fun ls hl => ?_)
  refine lv_aload_n hx hb dX11_clearText_8 rfl (lv_at hl 1 rfl) ?_
  refine va_get (D := D) (ci := 0) (v := .ref xt) (C := "KindredBooks") (T := T_zk0) (N := 12) hx hb hw in_zk0 hown hK hP 0 rfl rfl 0 (by decide) (hw _ mw_346) (fun _ h9 => h9) rfl dX11_clearText_9 ?_
  have hPc := hP.sub (ws' := [(xt, .inr (1, [.ref tb, .int 0]))]) [1] rfl
  have hDc := hD.sub (ws' := [(xt, .inr (1, [.ref tb, .int 0]))]) [1] (by decide) rfl
  have hFc := va_free (wc := [(xt, .inr (1, [.ref tb, .int 0]))]) hD hS hA [1] rfl
  refine va_callv (va_runV (As := []) (rest := []) ⟨hx, hb, hml, hown, hw⟩ (c_Text_empty l D dA dZ _ xt tb 0) (z_cwV 0 hw mw_387 mw_388 mw_389 mw_2 mw_390 rfl rfl (by decide +kernel) ⟨Nat.le_of_ble_eq_true rfl, Nat.le_of_ble_eq_true rfl⟩) (zPreV hPc hK hDc hT hE hS hFc (va_recv hK hP (ci := 1) (q0 := 1) rfl rfl)) rfl rfl hl.1 rfl (lv_room (Nat.le_of_ble_eq_true rfl)) dX11_clearText_12 ⟨Nat.le_of_ble_eq_true rfl, Nat.le_of_ble_eq_true rfl⟩) hS (fun q _ h => hFc q h) hFc (fun u t H1 locs ht hvm hpo hB hz1 hk1 hS => ?_)
  obtain ⟨hP1, hD1⟩ := hB
  rw [ht] at hP1
  obtain ⟨hP, hD⟩ := va_join (wr := [(ax, .inr (0, [.ref xt, .ref xp, .ref xs, .ref xl, .ref xb, .ref xk, .ref xm, .ref xq, .ref xg, .ref xf, .ref xe, .int 49]))]) (w1 := [(xt, .inr (1, [.ref tb, .int 0]))]) hP hD [1] [0] rfl rfl (by decide) (by decide) hk1 hFc hP1 hD1
  generalize H1 = H at hP hS ⊢
  have hP : va_P D zcl [(ax, .inr (0, [.ref xt, .ref xp, .ref xs, .ref xl, .ref xb, .ref xk, .ref xm, .ref xq, .ref xg, .ref xf, .ref xe, .int 49])), (xt, .inr (1, [.ref tb, .int 0]))] H := hP
  have hD : va_D A [(ax, .inr (0, [.ref xt, .ref xp, .ref xs, .ref xl, .ref xb, .ref xk, .ref xm, .ref xq, .ref xg, .ref xf, .ref xe, .int 49])), (xt, .inr (1, [.ref tb, .int 0]))] := hD
  refine lv_iload_n hx hb dX11_clearText_15 rfl (lv_at hl 0 rfl) ?_
  have hP9 := hP.sub (ws' := [(ax, .inr (0, [.ref xt, .ref xp, .ref xs, .ref xl, .ref xb, .ref xk, .ref xm, .ref xq, .ref xg, .ref xf, .ref xe, .int 49])), (xt, .inr (1, [.ref tb, .int 0]))]) [0, 1] rfl
  have hD9 := hD.sub (ws' := [(ax, .inr (0, [.ref xt, .ref xp, .ref xs, .ref xl, .ref xb, .ref xk, .ref xm, .ref xq, .ref xg, .ref xf, .ref xe, .int 49])), (xt, .inr (1, [.ref tb, .int 0]))]) [0, 1] (by decide) rfl
  exact W.iret (v := 0) hx hb hr (fun t ht hW => ⟨⟨0, (), rfl, rfl, by rw [ht]; exact hP9, hD9⟩, hS.F ht⟩) hS.2.2 dX11_clearText_16
set_option maxHeartbeats 4000000 in
set_option maxRecDepth 100000 in
/-- changes on a fresh object: ok -/
theorem c_changes_ok (l : Launch) (D : va_G) (dA : Nat → ClassId) (dZ : Nat → Nat) (sz : Nat) (ax : Nat) (xt : Nat) (xp : Nat) (xs : Nat) (xl : Nat) (xb : Nat) (xk : Nat) (xm : Nat) (xq : Nat) (xg : Nat) (xf : Nat) (xe : Nat) (bl : Nat) (no : Nat) (ro : Nat) : Met l yX11_changes (wz yX11_changes cX11_changes 1 (some .int)) ({ frames := 14, cells := 0, slots := 0, locals := 400 } : Room) (va_Pc [.ref ax] (zP D dA dZ [(ax, .inr (0, [.ref xt, .ref xp, .ref xs, .ref xl, .ref xb, .ref xk, .ref xm, .ref xq, .ref xg, .ref xf, .ref xe, .int 49])), (xl, .inr (2, [.ref bl, .ref no, .ref ro, .int 0]))] sz)) (va_Qi (fun (r : Int32) (_ : Unit) => r = 0) (fun _ => zB D (va_A [(ax, .inr (0, [.ref xt, .ref xp, .ref xs, .ref xl, .ref xb, .ref xk, .ref xm, .ref xq, .ref xg, .ref xf, .ref xe, .int 49])), (xl, .inr (2, [.ref bl, .ref no, .ref ro, .int 0]))] sz) [(ax, .inr (0, [.ref xt, .ref xp, .ref xs, .ref xl, .ref xb, .ref xk, .ref xm, .ref xq, .ref xg, .ref xf, .ref xe, .int 49])), (xl, .inr (2, [.ref bl, .ref no, .ref ro, .int 0]))]) (va_A [(ax, .inr (0, [.ref xt, .ref xp, .ref xs, .ref xl, .ref xb, .ref xk, .ref xm, .ref xq, .ref xg, .ref xf, .ref xe, .int 49])), (xl, .inr (2, [.ref bl, .ref no, .ref ro, .int 0]))] sz)) 0 0 (va_A [(ax, .inr (0, [.ref xt, .ref xp, .ref xs, .ref xl, .ref xb, .ref xk, .ref xm, .ref xq, .ref xg, .ref xf, .ref xe, .int 49])), (xl, .inr (2, [.ref bl, .ref no, .ref ro, .int 0]))] sz) := by
  refine Met.ofW (cc := cX11_changes) (maxL := 1) (ret := (some .int)) (by decide) rfl ?_
  intro p e s m args below meth c s₁ B hml hv
  obtain ⟨rfl, hsz, hP, hK, hD0, hT, hE⟩ := hv
  have hx := B.exec
  have hb := B.bytes
  have hr := B.returns
  have hw := wz_hw (atoms_spec (ws := wz yX11_changes cX11_changes 1 (some .int)) B.pre)
  have hown : s.vm.findClass "KindredBooks" = some m.cls := findClass_of_methodNamed B.named
  have hlocks := B.notSynchronized
  have hn := hT.1.use (args := ([.ref ax] : List Value).toArray)
  subst hsz
  have hD := hD0.self (sz := s.heap.size)
  generalize hAe : va_A [(ax, .inr (0, [.ref xt, .ref xp, .ref xs, .ref xl, .ref xb, .ref xk, .ref xm, .ref xq, .ref xg, .ref xf, .ref xe, .int 49])), (xl, .inr (2, [.ref bl, .ref no, .ref ro, .int 0]))] s.heap.size = A at hD hE ⊢
  have hA : ∀ q : Nat, s.heap.size ≤ q → A q := fun q h => by rw [← hAe]; exact Or.inr h
  have hS : va_S A s.heap s.heap [] := va_S.rf
  replace hP : va_P D zcl [(ax, .inr (0, [.ref xt, .ref xp, .ref xs, .ref xl, .ref xb, .ref xk, .ref xm, .ref xq, .ref xg, .ref xf, .ref xe, .int 49])), (xl, .inr (2, [.ref bl, .ref no, .ref ro, .int 0]))] s.heap := hP
  have hl := lv_entry ([.ref ax]) (n := 1) (Nat.le_of_ble_eq_true rfl)
  rw [lg_entry_eq]
  generalize (lg_sl ([.ref ax]) ++ List.replicate (1 - (lg_sl ([.ref ax])).length) Slot.unset).toArray = ls at hl ⊢
  replace hl : lv_has ls 1 [(0, .ref ax)] := hl
  refine lv_aload_n hx hb dX11_changes_0 rfl (lv_at hl 0 rfl) ?_
  refine va_get (D := D) (ci := 0) (v := .ref xl) (C := "KindredBooks") (T := T_zk0) (N := 12) hx hb hw in_zk0 hown hK hP 0 rfl rfl 3 (by decide) (hw _ mw_349) (fun _ h9 => h9) rfl dX11_changes_1 ?_
  refine va_getN (D := D) (ci := 2) (v := .int 0) (C := "KindredBooks$Ledger") (T := T_zk2) (N := 4) hx hb hw in_zk2 hown hK hP 1 rfl rfl 3 (by decide) (hn _ mn_170) (fun _ h9 => h9) rfl dX11_changes_4 ?_
  have hP9 := hP.sub (ws' := [(ax, .inr (0, [.ref xt, .ref xp, .ref xs, .ref xl, .ref xb, .ref xk, .ref xm, .ref xq, .ref xg, .ref xf, .ref xe, .int 49])), (xl, .inr (2, [.ref bl, .ref no, .ref ro, .int 0]))]) [0, 1] rfl
  have hD9 := hD.sub (ws' := [(ax, .inr (0, [.ref xt, .ref xp, .ref xs, .ref xl, .ref xb, .ref xk, .ref xm, .ref xq, .ref xg, .ref xf, .ref xe, .int 49])), (xl, .inr (2, [.ref bl, .ref no, .ref ro, .int 0]))]) [0, 1] (by decide) rfl
  exact W.iret (v := 0) hx hb hr (fun t ht hW => ⟨⟨0, (), rfl, rfl, by rw [ht]; exact hP9, hD9⟩, hS.F ht⟩) hS.2.2 dX11_changes_7
set_option maxHeartbeats 4000000 in
set_option maxRecDepth 100000 in
/-- entry: no such book -/
theorem c_entry_bad (l : Launch) (D : va_G) (dA : Nat → ClassId) (dZ : Nat → Nat) (sz : Nat) (hfl : l.stackTraces = false) (ax : Nat) (xt : Nat) (xp : Nat) (xs : Nat) (xl : Nat) (xb : Nat) (xk : Nat) (xm : Nat) (xq : Nat) (xg : Nat) (xf : Nat) (xe : Nat) (b : Int32) (hz : zbad b) : vx_Met l yX11_entry (wz yX11_entry cX11_entry 3 (some .int)) ({ frames := 9, cells := 1, slots := 6, locals := 200 } : Room) (va_Pc [.ref ax, .int b] (zP D dA dZ [(ax, .inr (0, [.ref xt, .ref xp, .ref xs, .ref xl, .ref xb, .ref xk, .ref xm, .ref xq, .ref xg, .ref xf, .ref xe, .int 49]))] sz)) zNo (zX "java/lang/IndexOutOfBoundsException" (va_A [(ax, .inr (0, [.ref xt, .ref xp, .ref xs, .ref xl, .ref xb, .ref xk, .ref xm, .ref xq, .ref xg, .ref xf, .ref xe, .int 49]))] sz)) 1 6 (va_A [(ax, .inr (0, [.ref xt, .ref xp, .ref xs, .ref xl, .ref xb, .ref xk, .ref xm, .ref xq, .ref xg, .ref xf, .ref xe, .int 49]))] sz) := by
  refine vx_ofW (cc := cX11_entry) (maxL := 3) (ret := (some .int)) (by decide) rfl ?_
  intro p e s m args below meth c s₁ B hml hno hv
  obtain ⟨rfl, hsz, hP, hK, hD0, hT, hE⟩ := hv
  have hx := B.exec
  have hb := B.bytes
  have hr := B.returns
  have hw := wz_hw (atoms_spec (ws := wz yX11_entry cX11_entry 3 (some .int)) B.pre)
  have hown : s.vm.findClass "KindredBooks" = some m.cls := findClass_of_methodNamed B.named
  have hlocks := B.notSynchronized
  have hn := hT.1.use (args := ([.ref ax, .int b] : List Value).toArray)
  subst hsz
  have hD := hD0.self (sz := s.heap.size)
  generalize hAe : va_A [(ax, .inr (0, [.ref xt, .ref xp, .ref xs, .ref xl, .ref xb, .ref xk, .ref xm, .ref xq, .ref xg, .ref xf, .ref xe, .int 49]))] s.heap.size = A at hD hE ⊢
  have hA : ∀ q : Nat, s.heap.size ≤ q → A q := fun q h => by rw [← hAe]; exact Or.inr h
  have hS : va_S A s.heap s.heap [] := va_S.rf
  replace hP : va_P D zcl [(ax, .inr (0, [.ref xt, .ref xp, .ref xs, .ref xl, .ref xb, .ref xk, .ref xm, .ref xq, .ref xg, .ref xf, .ref xe, .int 49]))] s.heap := hP
  have hl := lv_entry ([.ref ax, .int b]) (n := 3) (Nat.le_of_ble_eq_true rfl)
  rw [lg_entry_eq]
  generalize (lg_sl ([.ref ax, .int b]) ++ List.replicate (3 - (lg_sl ([.ref ax, .int b])).length) Slot.unset).toArray = ls at hl ⊢
  replace hl : lv_has ls 3 [(0, .ref ax), (1, .int b)] := hl
  refine lv_aload_n hx hb dX11_entry_0 rfl (lv_at hl 0 rfl) ?_
  refine lv_iload_n hx hb dX11_entry_1 rfl (lv_at hl 1 rfl) ?_
  have hPc := hP.sub (ws' := []) [] rfl
  have hDc := hD.sub (ws' := []) [] (by decide) rfl
  have hFc := va_free (wc := []) hD hS hA [] rfl
  refine zx_call (E0 := "java/lang/IndexOutOfBoundsException") (vx_runV (As := [.int b]) (rest := []) ⟨hx, hb, hml, hown, hw⟩ (c_bookOf_no l D dA dZ _ hfl ax b hz) (z_cwV 1 hw mw_603 mw_605 ms_3 mw_1 mw_606 rfl rfl (by decide +kernel) ⟨Nat.le_of_ble_eq_true rfl, Nat.le_of_ble_eq_true rfl⟩) (zPreV hPc hK hDc hT hE hS hFc (va_recv hK hP (ci := 0) (q0 := 0) rfl rfl)) rfl rfl hl.1 rfl (lv_room (Nat.le_of_ble_eq_true rfl)) dX11_entry_2 ⟨Nat.le_of_ble_eq_true rfl, Nat.le_of_ble_eq_true rfl⟩) hS (fun q _ h => hFc q h) hFc (fun ce q9 H1 locs hz1 hk1 hS hce hcv hcl => ?_)
  exact vx_out (fun x hx => (hno x hx).elim) hlocks hce hcv hcl (fun t ht ha => zX_at hS ht) hS.2.2 (Nat.le_of_ble_eq_true rfl) (Nat.le_of_ble_eq_true rfl)
set_option maxHeartbeats 4000000 in
set_option maxRecDepth 100000 in
/-- undo: no such book -/
theorem c_undo_bad (l : Launch) (D : va_G) (dA : Nat → ClassId) (dZ : Nat → Nat) (sz : Nat) (hfl : l.stackTraces = false) (ax : Nat) (xt : Nat) (xp : Nat) (xs : Nat) (xl : Nat) (xb : Nat) (xk : Nat) (xm : Nat) (xq : Nat) (xg : Nat) (xf : Nat) (xe : Nat) (b : Int32) (hz : zbad b) : vx_Met l yX11_undo (wz yX11_undo cX11_undo 4 (some .int)) ({ frames := 9, cells := 1, slots := 6, locals := 200 } : Room) (va_Pc [.ref ax, .int b] (zP D dA dZ [(ax, .inr (0, [.ref xt, .ref xp, .ref xs, .ref xl, .ref xb, .ref xk, .ref xm, .ref xq, .ref xg, .ref xf, .ref xe, .int 49]))] sz)) zNo (zX "java/lang/IndexOutOfBoundsException" (va_A [(ax, .inr (0, [.ref xt, .ref xp, .ref xs, .ref xl, .ref xb, .ref xk, .ref xm, .ref xq, .ref xg, .ref xf, .ref xe, .int 49]))] sz)) 1 6 (va_A [(ax, .inr (0, [.ref xt, .ref xp, .ref xs, .ref xl, .ref xb, .ref xk, .ref xm, .ref xq, .ref xg, .ref xf, .ref xe, .int 49]))] sz) := by
  refine vx_ofW (cc := cX11_undo) (maxL := 4) (ret := (some .int)) (by decide) rfl ?_
  intro p e s m args below meth c s₁ B hml hno hv
  obtain ⟨rfl, hsz, hP, hK, hD0, hT, hE⟩ := hv
  have hx := B.exec
  have hb := B.bytes
  have hr := B.returns
  have hw := wz_hw (atoms_spec (ws := wz yX11_undo cX11_undo 4 (some .int)) B.pre)
  have hown : s.vm.findClass "KindredBooks" = some m.cls := findClass_of_methodNamed B.named
  have hlocks := B.notSynchronized
  have hn := hT.1.use (args := ([.ref ax, .int b] : List Value).toArray)
  subst hsz
  have hD := hD0.self (sz := s.heap.size)
  generalize hAe : va_A [(ax, .inr (0, [.ref xt, .ref xp, .ref xs, .ref xl, .ref xb, .ref xk, .ref xm, .ref xq, .ref xg, .ref xf, .ref xe, .int 49]))] s.heap.size = A at hD hE ⊢
  have hA : ∀ q : Nat, s.heap.size ≤ q → A q := fun q h => by rw [← hAe]; exact Or.inr h
  have hS : va_S A s.heap s.heap [] := va_S.rf
  replace hP : va_P D zcl [(ax, .inr (0, [.ref xt, .ref xp, .ref xs, .ref xl, .ref xb, .ref xk, .ref xm, .ref xq, .ref xg, .ref xf, .ref xe, .int 49]))] s.heap := hP
  have hl := lv_entry ([.ref ax, .int b]) (n := 4) (Nat.le_of_ble_eq_true rfl)
  rw [lg_entry_eq]
  generalize (lg_sl ([.ref ax, .int b]) ++ List.replicate (4 - (lg_sl ([.ref ax, .int b])).length) Slot.unset).toArray = ls at hl ⊢
  replace hl : lv_has ls 4 [(0, .ref ax), (1, .int b)] := hl
  refine lv_aload_n hx hb dX11_undo_0 rfl (lv_at hl 0 rfl) ?_
  refine lv_iload_n hx hb dX11_undo_1 rfl (lv_at hl 1 rfl) ?_
  have hPc := hP.sub (ws' := []) [] rfl
  have hDc := hD.sub (ws' := []) [] (by decide) rfl
  have hFc := va_free (wc := []) hD hS hA [] rfl
  refine zx_call (E0 := "java/lang/IndexOutOfBoundsException") (vx_runV (As := [.int b]) (rest := []) ⟨hx, hb, hml, hown, hw⟩ (c_bookOf_no l D dA dZ _ hfl ax b hz) (z_cwV 1 hw mw_603 mw_605 ms_3 mw_1 mw_606 rfl rfl (by decide +kernel) ⟨Nat.le_of_ble_eq_true rfl, Nat.le_of_ble_eq_true rfl⟩) (zPreV hPc hK hDc hT hE hS hFc (va_recv hK hP (ci := 0) (q0 := 0) rfl rfl)) rfl rfl hl.1 rfl (lv_room (Nat.le_of_ble_eq_true rfl)) dX11_undo_2 ⟨Nat.le_of_ble_eq_true rfl, Nat.le_of_ble_eq_true rfl⟩) hS (fun q _ h => hFc q h) hFc (fun ce q9 H1 locs hz1 hk1 hS hce hcv hcl => ?_)
  exact vx_out (fun x hx => (hno x hx).elim) hlocks hce hcv hcl (fun t ht ha => zX_at hS ht) hS.2.2 (Nat.le_of_ble_eq_true rfl) (Nat.le_of_ble_eq_true rfl)
set_option maxHeartbeats 4000000 in
set_option maxRecDepth 100000 in
/-- known: no such book -/
theorem c_known_bad (l : Launch) (D : va_G) (dA : Nat → ClassId) (dZ : Nat → Nat) (sz : Nat) (hfl : l.stackTraces = false) (ax : Nat) (xt : Nat) (xp : Nat) (xs : Nat) (xl : Nat) (xb : Nat) (xk : Nat) (xm : Nat) (xq : Nat) (xg : Nat) (xf : Nat) (xe : Nat) (b : Int32) (hz : zbad b) : vx_Met l yX11_known (wz yX11_known cX11_known 2 (some .int)) ({ frames := 9, cells := 1, slots := 6, locals := 200 } : Room) (va_Pc [.ref ax, .int b] (zP D dA dZ [(ax, .inr (0, [.ref xt, .ref xp, .ref xs, .ref xl, .ref xb, .ref xk, .ref xm, .ref xq, .ref xg, .ref xf, .ref xe, .int 49]))] sz)) zNo (zX "java/lang/IndexOutOfBoundsException" (va_A [(ax, .inr (0, [.ref xt, .ref xp, .ref xs, .ref xl, .ref xb, .ref xk, .ref xm, .ref xq, .ref xg, .ref xf, .ref xe, .int 49]))] sz)) 1 6 (va_A [(ax, .inr (0, [.ref xt, .ref xp, .ref xs, .ref xl, .ref xb, .ref xk, .ref xm, .ref xq, .ref xg, .ref xf, .ref xe, .int 49]))] sz) := by
  refine vx_ofW (cc := cX11_known) (maxL := 2) (ret := (some .int)) (by decide) rfl ?_
  intro p e s m args below meth c s₁ B hml hno hv
  obtain ⟨rfl, hsz, hP, hK, hD0, hT, hE⟩ := hv
  have hx := B.exec
  have hb := B.bytes
  have hr := B.returns
  have hw := wz_hw (atoms_spec (ws := wz yX11_known cX11_known 2 (some .int)) B.pre)
  have hown : s.vm.findClass "KindredBooks" = some m.cls := findClass_of_methodNamed B.named
  have hlocks := B.notSynchronized
  have hn := hT.1.use (args := ([.ref ax, .int b] : List Value).toArray)
  subst hsz
  have hD := hD0.self (sz := s.heap.size)
  generalize hAe : va_A [(ax, .inr (0, [.ref xt, .ref xp, .ref xs, .ref xl, .ref xb, .ref xk, .ref xm, .ref xq, .ref xg, .ref xf, .ref xe, .int 49]))] s.heap.size = A at hD hE ⊢
  have hA : ∀ q : Nat, s.heap.size ≤ q → A q := fun q h => by rw [← hAe]; exact Or.inr h
  have hS : va_S A s.heap s.heap [] := va_S.rf
  replace hP : va_P D zcl [(ax, .inr (0, [.ref xt, .ref xp, .ref xs, .ref xl, .ref xb, .ref xk, .ref xm, .ref xq, .ref xg, .ref xf, .ref xe, .int 49]))] s.heap := hP
  have hl := lv_entry ([.ref ax, .int b]) (n := 2) (Nat.le_of_ble_eq_true rfl)
  rw [lg_entry_eq]
  generalize (lg_sl ([.ref ax, .int b]) ++ List.replicate (2 - (lg_sl ([.ref ax, .int b])).length) Slot.unset).toArray = ls at hl ⊢
  replace hl : lv_has ls 2 [(0, .ref ax), (1, .int b)] := hl
  refine lv_aload_n hx hb dX11_known_0 rfl (lv_at hl 0 rfl) ?_
  refine lv_iload_n hx hb dX11_known_1 rfl (lv_at hl 1 rfl) ?_
  have hPc := hP.sub (ws' := []) [] rfl
  have hDc := hD.sub (ws' := []) [] (by decide) rfl
  have hFc := va_free (wc := []) hD hS hA [] rfl
  refine zx_call (E0 := "java/lang/IndexOutOfBoundsException") (vx_runV (As := [.int b]) (rest := []) ⟨hx, hb, hml, hown, hw⟩ (c_bookOf_no l D dA dZ _ hfl ax b hz) (z_cwV 1 hw mw_603 mw_605 ms_3 mw_1 mw_606 rfl rfl (by decide +kernel) ⟨Nat.le_of_ble_eq_true rfl, Nat.le_of_ble_eq_true rfl⟩) (zPreV hPc hK hDc hT hE hS hFc (va_recv hK hP (ci := 0) (q0 := 0) rfl rfl)) rfl rfl hl.1 rfl (lv_room (Nat.le_of_ble_eq_true rfl)) dX11_known_2 ⟨Nat.le_of_ble_eq_true rfl, Nat.le_of_ble_eq_true rfl⟩) hS (fun q _ h => hFc q h) hFc (fun ce q9 H1 locs hz1 hk1 hS hce hcv hcl => ?_)
  exact vx_out (fun x hx => (hno x hx).elim) hlocks hce hcv hcl (fun t ht ha => zX_at hS ht) hS.2.2 (Nat.le_of_ble_eq_true rfl) (Nat.le_of_ble_eq_true rfl)
set_option maxHeartbeats 4000000 in
set_option maxRecDepth 100000 in
/-- meanLines: no such book -/
theorem c_meanLines_bad (l : Launch) (D : va_G) (dA : Nat → ClassId) (dZ : Nat → Nat) (sz : Nat) (hfl : l.stackTraces = false) (ax : Nat) (xt : Nat) (xp : Nat) (xs : Nat) (xl : Nat) (xb : Nat) (xk : Nat) (xm : Nat) (xq : Nat) (xg : Nat) (xf : Nat) (xe : Nat) (b : Int32) (hz : zbad b) : vx_Met l yX11_meanLines (wz yX11_meanLines cX11_meanLines 4 (some .double)) ({ frames := 9, cells := 1, slots := 6, locals := 200 } : Room) (va_Pc [.ref ax, .int b] (zP D dA dZ [(ax, .inr (0, [.ref xt, .ref xp, .ref xs, .ref xl, .ref xb, .ref xk, .ref xm, .ref xq, .ref xg, .ref xf, .ref xe, .int 49]))] sz)) zNo (zX "java/lang/IndexOutOfBoundsException" (va_A [(ax, .inr (0, [.ref xt, .ref xp, .ref xs, .ref xl, .ref xb, .ref xk, .ref xm, .ref xq, .ref xg, .ref xf, .ref xe, .int 49]))] sz)) 1 6 (va_A [(ax, .inr (0, [.ref xt, .ref xp, .ref xs, .ref xl, .ref xb, .ref xk, .ref xm, .ref xq, .ref xg, .ref xf, .ref xe, .int 49]))] sz) := by
  refine vx_ofW (cc := cX11_meanLines) (maxL := 4) (ret := (some .double)) (by decide) rfl ?_
  intro p e s m args below meth c s₁ B hml hno hv
  obtain ⟨rfl, hsz, hP, hK, hD0, hT, hE⟩ := hv
  have hx := B.exec
  have hb := B.bytes
  have hr := B.returns
  have hw := wz_hw (atoms_spec (ws := wz yX11_meanLines cX11_meanLines 4 (some .double)) B.pre)
  have hown : s.vm.findClass "KindredBooks" = some m.cls := findClass_of_methodNamed B.named
  have hlocks := B.notSynchronized
  have hn := hT.1.use (args := ([.ref ax, .int b] : List Value).toArray)
  subst hsz
  have hD := hD0.self (sz := s.heap.size)
  generalize hAe : va_A [(ax, .inr (0, [.ref xt, .ref xp, .ref xs, .ref xl, .ref xb, .ref xk, .ref xm, .ref xq, .ref xg, .ref xf, .ref xe, .int 49]))] s.heap.size = A at hD hE ⊢
  have hA : ∀ q : Nat, s.heap.size ≤ q → A q := fun q h => by rw [← hAe]; exact Or.inr h
  have hS : va_S A s.heap s.heap [] := va_S.rf
  replace hP : va_P D zcl [(ax, .inr (0, [.ref xt, .ref xp, .ref xs, .ref xl, .ref xb, .ref xk, .ref xm, .ref xq, .ref xg, .ref xf, .ref xe, .int 49]))] s.heap := hP
  have hl := lv_entry ([.ref ax, .int b]) (n := 4) (Nat.le_of_ble_eq_true rfl)
  rw [lg_entry_eq]
  generalize (lg_sl ([.ref ax, .int b]) ++ List.replicate (4 - (lg_sl ([.ref ax, .int b])).length) Slot.unset).toArray = ls at hl ⊢
  replace hl : lv_has ls 4 [(0, .ref ax), (1, .int b)] := hl
  refine lv_aload_n hx hb dX11_meanLines_0 rfl (lv_at hl 0 rfl) ?_
  refine lv_iload_n hx hb dX11_meanLines_1 rfl (lv_at hl 1 rfl) ?_
  have hPc := hP.sub (ws' := []) [] rfl
  have hDc := hD.sub (ws' := []) [] (by decide) rfl
  have hFc := va_free (wc := []) hD hS hA [] rfl
  refine zx_call (E0 := "java/lang/IndexOutOfBoundsException") (vx_runV (As := [.int b]) (rest := []) ⟨hx, hb, hml, hown, hw⟩ (c_bookOf_no l D dA dZ _ hfl ax b hz) (z_cwV 1 hw mw_603 mw_605 ms_3 mw_1 mw_606 rfl rfl (by decide +kernel) ⟨Nat.le_of_ble_eq_true rfl, Nat.le_of_ble_eq_true rfl⟩) (zPreV hPc hK hDc hT hE hS hFc (va_recv hK hP (ci := 0) (q0 := 0) rfl rfl)) rfl rfl hl.1 rfl (lv_room (Nat.le_of_ble_eq_true rfl)) dX11_meanLines_2 ⟨Nat.le_of_ble_eq_true rfl, Nat.le_of_ble_eq_true rfl⟩) hS (fun q _ h => hFc q h) hFc (fun ce q9 H1 locs hz1 hk1 hS hce hcv hcl => ?_)
  exact vx_out (fun x hx => (hno x hx).elim) hlocks hce hcv hcl (fun t ht ha => zX_at hS ht) hS.2.2 (Nat.le_of_ble_eq_true rfl) (Nat.le_of_ble_eq_true rfl)
set_option maxHeartbeats 4000000 in
set_option maxRecDepth 100000 in
/-- countShare: no such book -/
theorem c_countShare_bad (l : Launch) (D : va_G) (dA : Nat → ClassId) (dZ : Nat → Nat) (sz : Nat) (hfl : l.stackTraces = false) (ax : Nat) (xt : Nat) (xp : Nat) (xs : Nat) (xl : Nat) (xb : Nat) (xk : Nat) (xm : Nat) (xq : Nat) (xg : Nat) (xf : Nat) (xe : Nat) (b : Int32) (hz : zbad b) : vx_Met l yX11_countShare (wz yX11_countShare cX11_countShare 3 (some .float)) ({ frames := 9, cells := 1, slots := 6, locals := 200 } : Room) (va_Pc [.ref ax, .int b] (zP D dA dZ [(ax, .inr (0, [.ref xt, .ref xp, .ref xs, .ref xl, .ref xb, .ref xk, .ref xm, .ref xq, .ref xg, .ref xf, .ref xe, .int 49]))] sz)) zNo (zX "java/lang/IndexOutOfBoundsException" (va_A [(ax, .inr (0, [.ref xt, .ref xp, .ref xs, .ref xl, .ref xb, .ref xk, .ref xm, .ref xq, .ref xg, .ref xf, .ref xe, .int 49]))] sz)) 1 6 (va_A [(ax, .inr (0, [.ref xt, .ref xp, .ref xs, .ref xl, .ref xb, .ref xk, .ref xm, .ref xq, .ref xg, .ref xf, .ref xe, .int 49]))] sz) := by
  refine vx_ofW (cc := cX11_countShare) (maxL := 3) (ret := (some .float)) (by decide) rfl ?_
  intro p e s m args below meth c s₁ B hml hno hv
  obtain ⟨rfl, hsz, hP, hK, hD0, hT, hE⟩ := hv
  have hx := B.exec
  have hb := B.bytes
  have hr := B.returns
  have hw := wz_hw (atoms_spec (ws := wz yX11_countShare cX11_countShare 3 (some .float)) B.pre)
  have hown : s.vm.findClass "KindredBooks" = some m.cls := findClass_of_methodNamed B.named
  have hlocks := B.notSynchronized
  have hn := hT.1.use (args := ([.ref ax, .int b] : List Value).toArray)
  subst hsz
  have hD := hD0.self (sz := s.heap.size)
  generalize hAe : va_A [(ax, .inr (0, [.ref xt, .ref xp, .ref xs, .ref xl, .ref xb, .ref xk, .ref xm, .ref xq, .ref xg, .ref xf, .ref xe, .int 49]))] s.heap.size = A at hD hE ⊢
  have hA : ∀ q : Nat, s.heap.size ≤ q → A q := fun q h => by rw [← hAe]; exact Or.inr h
  have hS : va_S A s.heap s.heap [] := va_S.rf
  replace hP : va_P D zcl [(ax, .inr (0, [.ref xt, .ref xp, .ref xs, .ref xl, .ref xb, .ref xk, .ref xm, .ref xq, .ref xg, .ref xf, .ref xe, .int 49]))] s.heap := hP
  have hl := lv_entry ([.ref ax, .int b]) (n := 3) (Nat.le_of_ble_eq_true rfl)
  rw [lg_entry_eq]
  generalize (lg_sl ([.ref ax, .int b]) ++ List.replicate (3 - (lg_sl ([.ref ax, .int b])).length) Slot.unset).toArray = ls at hl ⊢
  replace hl : lv_has ls 3 [(0, .ref ax), (1, .int b)] := hl
  refine lv_aload_n hx hb dX11_countShare_0 rfl (lv_at hl 0 rfl) ?_
  refine lv_iload_n hx hb dX11_countShare_1 rfl (lv_at hl 1 rfl) ?_
  have hPc := hP.sub (ws' := []) [] rfl
  have hDc := hD.sub (ws' := []) [] (by decide) rfl
  have hFc := va_free (wc := []) hD hS hA [] rfl
  refine zx_call (E0 := "java/lang/IndexOutOfBoundsException") (vx_runV (As := [.int b]) (rest := []) ⟨hx, hb, hml, hown, hw⟩ (c_bookOf_no l D dA dZ _ hfl ax b hz) (z_cwV 1 hw mw_603 mw_605 ms_3 mw_1 mw_606 rfl rfl (by decide +kernel) ⟨Nat.le_of_ble_eq_true rfl, Nat.le_of_ble_eq_true rfl⟩) (zPreV hPc hK hDc hT hE hS hFc (va_recv hK hP (ci := 0) (q0 := 0) rfl rfl)) rfl rfl hl.1 rfl (lv_room (Nat.le_of_ble_eq_true rfl)) dX11_countShare_2 ⟨Nat.le_of_ble_eq_true rfl, Nat.le_of_ble_eq_true rfl⟩) hS (fun q _ h => hFc q h) hFc (fun ce q9 H1 locs hz1 hk1 hS hce hcv hcl => ?_)
  exact vx_out (fun x hx => (hno x hx).elim) hlocks hce hcv hcl (fun t ht ha => zX_at hS ht) hS.2.2 (Nat.le_of_ble_eq_true rfl) (Nat.le_of_ble_eq_true rfl)
set_option maxHeartbeats 4000000 in
set_option maxRecDepth 100000 in
/-- readIn: no such book -/
theorem c_readIn_bad (l : Launch) (D : va_G) (dA : Nat → ClassId) (dZ : Nat → Nat) (sz : Nat) (hfl : l.stackTraces = false) (ax : Nat) (xt : Nat) (xp : Nat) (xs : Nat) (xl : Nat) (xb : Nat) (xk : Nat) (xm : Nat) (xq : Nat) (xg : Nat) (xf : Nat) (xe : Nat) (b : Int32) (hz : zbad b) : vx_Met l yX11_readIn (wz yX11_readIn cX11_readIn 6 (some .int)) ({ frames := 9, cells := 1, slots := 6, locals := 200 } : Room) (va_Pc [.ref ax, .int b] (zP D dA dZ [(ax, .inr (0, [.ref xt, .ref xp, .ref xs, .ref xl, .ref xb, .ref xk, .ref xm, .ref xq, .ref xg, .ref xf, .ref xe, .int 49]))] sz)) zNo (zX "java/lang/IndexOutOfBoundsException" (va_A [(ax, .inr (0, [.ref xt, .ref xp, .ref xs, .ref xl, .ref xb, .ref xk, .ref xm, .ref xq, .ref xg, .ref xf, .ref xe, .int 49]))] sz)) 1 6 (va_A [(ax, .inr (0, [.ref xt, .ref xp, .ref xs, .ref xl, .ref xb, .ref xk, .ref xm, .ref xq, .ref xg, .ref xf, .ref xe, .int 49]))] sz) := by
  refine vx_ofW (cc := cX11_readIn) (maxL := 6) (ret := (some .int)) (by decide) rfl ?_
  intro p e s m args below meth c s₁ B hml hno hv
  obtain ⟨rfl, hsz, hP, hK, hD0, hT, hE⟩ := hv
  have hx := B.exec
  have hb := B.bytes
  have hr := B.returns
  have hw := wz_hw (atoms_spec (ws := wz yX11_readIn cX11_readIn 6 (some .int)) B.pre)
  have hown : s.vm.findClass "KindredBooks" = some m.cls := findClass_of_methodNamed B.named
  have hlocks := B.notSynchronized
  have hn := hT.1.use (args := ([.ref ax, .int b] : List Value).toArray)
  subst hsz
  have hD := hD0.self (sz := s.heap.size)
  generalize hAe : va_A [(ax, .inr (0, [.ref xt, .ref xp, .ref xs, .ref xl, .ref xb, .ref xk, .ref xm, .ref xq, .ref xg, .ref xf, .ref xe, .int 49]))] s.heap.size = A at hD hE ⊢
  have hA : ∀ q : Nat, s.heap.size ≤ q → A q := fun q h => by rw [← hAe]; exact Or.inr h
  have hS : va_S A s.heap s.heap [] := va_S.rf
  replace hP : va_P D zcl [(ax, .inr (0, [.ref xt, .ref xp, .ref xs, .ref xl, .ref xb, .ref xk, .ref xm, .ref xq, .ref xg, .ref xf, .ref xe, .int 49]))] s.heap := hP
  have hl := lv_entry ([.ref ax, .int b]) (n := 6) (Nat.le_of_ble_eq_true rfl)
  rw [lg_entry_eq]
  generalize (lg_sl ([.ref ax, .int b]) ++ List.replicate (6 - (lg_sl ([.ref ax, .int b])).length) Slot.unset).toArray = ls at hl ⊢
  replace hl : lv_has ls 6 [(0, .ref ax), (1, .int b)] := hl
  refine lv_aload_n hx hb dX11_readIn_0 rfl (lv_at hl 0 rfl) ?_
  refine lv_iload_n hx hb dX11_readIn_1 rfl (lv_at hl 1 rfl) ?_
  have hPc := hP.sub (ws' := []) [] rfl
  have hDc := hD.sub (ws' := []) [] (by decide) rfl
  have hFc := va_free (wc := []) hD hS hA [] rfl
  refine zx_call (E0 := "java/lang/IndexOutOfBoundsException") (vx_runV (As := [.int b]) (rest := []) ⟨hx, hb, hml, hown, hw⟩ (c_bookOf_no l D dA dZ _ hfl ax b hz) (z_cwV 1 hw mw_603 mw_605 ms_3 mw_1 mw_606 rfl rfl (by decide +kernel) ⟨Nat.le_of_ble_eq_true rfl, Nat.le_of_ble_eq_true rfl⟩) (zPreV hPc hK hDc hT hE hS hFc (va_recv hK hP (ci := 0) (q0 := 0) rfl rfl)) rfl rfl hl.1 rfl (lv_room (Nat.le_of_ble_eq_true rfl)) dX11_readIn_2 ⟨Nat.le_of_ble_eq_true rfl, Nat.le_of_ble_eq_true rfl⟩) hS (fun q _ h => hFc q h) hFc (fun ce q9 H1 locs hz1 hk1 hS hce hcv hcl => ?_)
  exact vx_out (fun x hx => (hno x hx).elim) hlocks hce hcv hcl (fun t ht ha => zX_at hS ht) hS.2.2 (Nat.le_of_ble_eq_true rfl) (Nat.le_of_ble_eq_true rfl)
set_option maxHeartbeats 4000000 in
set_option maxRecDepth 100000 in
/-- groups: no such book -/
theorem c_groups_bad (l : Launch) (D : va_G) (dA : Nat → ClassId) (dZ : Nat → Nat) (sz : Nat) (hfl : l.stackTraces = false) (ax : Nat) (xt : Nat) (xp : Nat) (xs : Nat) (xl : Nat) (xb : Nat) (xk : Nat) (xm : Nat) (xq : Nat) (xg : Nat) (xf : Nat) (xe : Nat) (b : Int32) (hz : zbad b) : vx_Met l yX11_groups (wz yX11_groups cX11_groups 2 (some .int)) ({ frames := 9, cells := 1, slots := 6, locals := 200 } : Room) (va_Pc [.ref ax, .int b] (zP D dA dZ [(ax, .inr (0, [.ref xt, .ref xp, .ref xs, .ref xl, .ref xb, .ref xk, .ref xm, .ref xq, .ref xg, .ref xf, .ref xe, .int 49]))] sz)) zNo (zX "java/lang/IndexOutOfBoundsException" (va_A [(ax, .inr (0, [.ref xt, .ref xp, .ref xs, .ref xl, .ref xb, .ref xk, .ref xm, .ref xq, .ref xg, .ref xf, .ref xe, .int 49]))] sz)) 1 6 (va_A [(ax, .inr (0, [.ref xt, .ref xp, .ref xs, .ref xl, .ref xb, .ref xk, .ref xm, .ref xq, .ref xg, .ref xf, .ref xe, .int 49]))] sz) := by
  refine vx_ofW (cc := cX11_groups) (maxL := 2) (ret := (some .int)) (by decide) rfl ?_
  intro p e s m args below meth c s₁ B hml hno hv
  obtain ⟨rfl, hsz, hP, hK, hD0, hT, hE⟩ := hv
  have hx := B.exec
  have hb := B.bytes
  have hr := B.returns
  have hw := wz_hw (atoms_spec (ws := wz yX11_groups cX11_groups 2 (some .int)) B.pre)
  have hown : s.vm.findClass "KindredBooks" = some m.cls := findClass_of_methodNamed B.named
  have hlocks := B.notSynchronized
  have hn := hT.1.use (args := ([.ref ax, .int b] : List Value).toArray)
  subst hsz
  have hD := hD0.self (sz := s.heap.size)
  generalize hAe : va_A [(ax, .inr (0, [.ref xt, .ref xp, .ref xs, .ref xl, .ref xb, .ref xk, .ref xm, .ref xq, .ref xg, .ref xf, .ref xe, .int 49]))] s.heap.size = A at hD hE ⊢
  have hA : ∀ q : Nat, s.heap.size ≤ q → A q := fun q h => by rw [← hAe]; exact Or.inr h
  have hS : va_S A s.heap s.heap [] := va_S.rf
  replace hP : va_P D zcl [(ax, .inr (0, [.ref xt, .ref xp, .ref xs, .ref xl, .ref xb, .ref xk, .ref xm, .ref xq, .ref xg, .ref xf, .ref xe, .int 49]))] s.heap := hP
  have hl := lv_entry ([.ref ax, .int b]) (n := 2) (Nat.le_of_ble_eq_true rfl)
  rw [lg_entry_eq]
  generalize (lg_sl ([.ref ax, .int b]) ++ List.replicate (2 - (lg_sl ([.ref ax, .int b])).length) Slot.unset).toArray = ls at hl ⊢
  replace hl : lv_has ls 2 [(0, .ref ax), (1, .int b)] := hl
  refine lv_aload_n hx hb dX11_groups_0 rfl (lv_at hl 0 rfl) ?_
  refine lv_iload_n hx hb dX11_groups_1 rfl (lv_at hl 1 rfl) ?_
  have hPc := hP.sub (ws' := []) [] rfl
  have hDc := hD.sub (ws' := []) [] (by decide) rfl
  have hFc := va_free (wc := []) hD hS hA [] rfl
  refine zx_call (E0 := "java/lang/IndexOutOfBoundsException") (vx_runV (As := [.int b]) (rest := []) ⟨hx, hb, hml, hown, hw⟩ (c_kinOf_no l D dA dZ _ hfl ax b hz) (z_cwV 1 hw mw_863 mw_865 ms_17 mw_1 mw_866 rfl rfl (by decide +kernel) ⟨Nat.le_of_ble_eq_true rfl, Nat.le_of_ble_eq_true rfl⟩) (zPreV hPc hK hDc hT hE hS hFc (va_recv hK hP (ci := 0) (q0 := 0) rfl rfl)) rfl rfl hl.1 rfl (lv_room (Nat.le_of_ble_eq_true rfl)) dX11_groups_2 ⟨Nat.le_of_ble_eq_true rfl, Nat.le_of_ble_eq_true rfl⟩) hS (fun q _ h => hFc q h) hFc (fun ce q9 H1 locs hz1 hk1 hS hce hcv hcl => ?_)
  exact vx_out (fun x hx => (hno x hx).elim) hlocks hce hcv hcl (fun t ht ha => zX_at hS ht) hS.2.2 (Nat.le_of_ble_eq_true rfl) (Nat.le_of_ble_eq_true rfl)
set_option maxHeartbeats 4000000 in
set_option maxRecDepth 100000 in
/-- looked: no such book -/
theorem c_looked_bad (l : Launch) (D : va_G) (dA : Nat → ClassId) (dZ : Nat → Nat) (sz : Nat) (hfl : l.stackTraces = false) (ax : Nat) (xt : Nat) (xp : Nat) (xs : Nat) (xl : Nat) (xb : Nat) (xk : Nat) (xm : Nat) (xq : Nat) (xg : Nat) (xf : Nat) (xe : Nat) (b : Int32) (hz : zbad b) : vx_Met l yX11_looked (wz yX11_looked cX11_looked 6 (some .int)) ({ frames := 9, cells := 1, slots := 6, locals := 200 } : Room) (va_Pc [.ref ax, .int b] (zP D dA dZ [(ax, .inr (0, [.ref xt, .ref xp, .ref xs, .ref xl, .ref xb, .ref xk, .ref xm, .ref xq, .ref xg, .ref xf, .ref xe, .int 49]))] sz)) zNo (zX "java/lang/IndexOutOfBoundsException" (va_A [(ax, .inr (0, [.ref xt, .ref xp, .ref xs, .ref xl, .ref xb, .ref xk, .ref xm, .ref xq, .ref xg, .ref xf, .ref xe, .int 49]))] sz)) 1 6 (va_A [(ax, .inr (0, [.ref xt, .ref xp, .ref xs, .ref xl, .ref xb, .ref xk, .ref xm, .ref xq, .ref xg, .ref xf, .ref xe, .int 49]))] sz) := by
  refine vx_ofW (cc := cX11_looked) (maxL := 6) (ret := (some .int)) (by decide) rfl ?_
  intro p e s m args below meth c s₁ B hml hno hv
  obtain ⟨rfl, hsz, hP, hK, hD0, hT, hE⟩ := hv
  have hx := B.exec
  have hb := B.bytes
  have hr := B.returns
  have hw := wz_hw (atoms_spec (ws := wz yX11_looked cX11_looked 6 (some .int)) B.pre)
  have hown : s.vm.findClass "KindredBooks" = some m.cls := findClass_of_methodNamed B.named
  have hlocks := B.notSynchronized
  have hn := hT.1.use (args := ([.ref ax, .int b] : List Value).toArray)
  subst hsz
  have hD := hD0.self (sz := s.heap.size)
  generalize hAe : va_A [(ax, .inr (0, [.ref xt, .ref xp, .ref xs, .ref xl, .ref xb, .ref xk, .ref xm, .ref xq, .ref xg, .ref xf, .ref xe, .int 49]))] s.heap.size = A at hD hE ⊢
  have hA : ∀ q : Nat, s.heap.size ≤ q → A q := fun q h => by rw [← hAe]; exact Or.inr h
  have hS : va_S A s.heap s.heap [] := va_S.rf
  replace hP : va_P D zcl [(ax, .inr (0, [.ref xt, .ref xp, .ref xs, .ref xl, .ref xb, .ref xk, .ref xm, .ref xq, .ref xg, .ref xf, .ref xe, .int 49]))] s.heap := hP
  have hl := lv_entry ([.ref ax, .int b]) (n := 6) (Nat.le_of_ble_eq_true rfl)
  rw [lg_entry_eq]
  generalize (lg_sl ([.ref ax, .int b]) ++ List.replicate (6 - (lg_sl ([.ref ax, .int b])).length) Slot.unset).toArray = ls at hl ⊢
  replace hl : lv_has ls 6 [(0, .ref ax), (1, .int b)] := hl
  refine lv_aload_n hx hb dX11_looked_0 rfl (lv_at hl 0 rfl) ?_
  refine lv_iload_n hx hb dX11_looked_1 rfl (lv_at hl 1 rfl) ?_
  have hPc := hP.sub (ws' := []) [] rfl
  have hDc := hD.sub (ws' := []) [] (by decide) rfl
  have hFc := va_free (wc := []) hD hS hA [] rfl
  refine zx_call (E0 := "java/lang/IndexOutOfBoundsException") (vx_runV (As := [.int b]) (rest := []) ⟨hx, hb, hml, hown, hw⟩ (c_kinOf_no l D dA dZ _ hfl ax b hz) (z_cwV 1 hw mw_863 mw_865 ms_17 mw_1 mw_866 rfl rfl (by decide +kernel) ⟨Nat.le_of_ble_eq_true rfl, Nat.le_of_ble_eq_true rfl⟩) (zPreV hPc hK hDc hT hE hS hFc (va_recv hK hP (ci := 0) (q0 := 0) rfl rfl)) rfl rfl hl.1 rfl (lv_room (Nat.le_of_ble_eq_true rfl)) dX11_looked_2 ⟨Nat.le_of_ble_eq_true rfl, Nat.le_of_ble_eq_true rfl⟩) hS (fun q _ h => hFc q h) hFc (fun ce q9 H1 locs hz1 hk1 hS hce hcv hcl => ?_)
  exact vx_out (fun x hx => (hno x hx).elim) hlocks hce hcv hcl (fun t ht ha => zX_at hS ht) hS.2.2 (Nat.le_of_ble_eq_true rfl) (Nat.le_of_ble_eq_true rfl)
set_option maxHeartbeats 4000000 in
set_option maxRecDepth 100000 in
/-- digest: no such book -/
theorem c_digest_bad (l : Launch) (D : va_G) (dA : Nat → ClassId) (dZ : Nat → Nat) (sz : Nat) (hfl : l.stackTraces = false) (ax : Nat) (xt : Nat) (xp : Nat) (xs : Nat) (xl : Nat) (xb : Nat) (xk : Nat) (xm : Nat) (xq : Nat) (xg : Nat) (xf : Nat) (xe : Nat) (b : Int32) (hz : zbad b) : vx_Met l yX11_digest (wz yX11_digest cX11_digest 8 (some .long)) ({ frames := 9, cells := 1, slots := 6, locals := 200 } : Room) (va_Pc [.ref ax, .int b] (zP D dA dZ [(ax, .inr (0, [.ref xt, .ref xp, .ref xs, .ref xl, .ref xb, .ref xk, .ref xm, .ref xq, .ref xg, .ref xf, .ref xe, .int 49]))] sz)) zNo (zX "java/lang/IndexOutOfBoundsException" (va_A [(ax, .inr (0, [.ref xt, .ref xp, .ref xs, .ref xl, .ref xb, .ref xk, .ref xm, .ref xq, .ref xg, .ref xf, .ref xe, .int 49]))] sz)) 1 6 (va_A [(ax, .inr (0, [.ref xt, .ref xp, .ref xs, .ref xl, .ref xb, .ref xk, .ref xm, .ref xq, .ref xg, .ref xf, .ref xe, .int 49]))] sz) := by
  refine vx_ofW (cc := cX11_digest) (maxL := 8) (ret := (some .long)) (by decide) rfl ?_
  intro p e s m args below meth c s₁ B hml hno hv
  obtain ⟨rfl, hsz, hP, hK, hD0, hT, hE⟩ := hv
  have hx := B.exec
  have hb := B.bytes
  have hr := B.returns
  have hw := wz_hw (atoms_spec (ws := wz yX11_digest cX11_digest 8 (some .long)) B.pre)
  have hown : s.vm.findClass "KindredBooks" = some m.cls := findClass_of_methodNamed B.named
  have hlocks := B.notSynchronized
  have hn := hT.1.use (args := ([.ref ax, .int b] : List Value).toArray)
  subst hsz
  have hD := hD0.self (sz := s.heap.size)
  generalize hAe : va_A [(ax, .inr (0, [.ref xt, .ref xp, .ref xs, .ref xl, .ref xb, .ref xk, .ref xm, .ref xq, .ref xg, .ref xf, .ref xe, .int 49]))] s.heap.size = A at hD hE ⊢
  have hA : ∀ q : Nat, s.heap.size ≤ q → A q := fun q h => by rw [← hAe]; exact Or.inr h
  have hS : va_S A s.heap s.heap [] := va_S.rf
  replace hP : va_P D zcl [(ax, .inr (0, [.ref xt, .ref xp, .ref xs, .ref xl, .ref xb, .ref xk, .ref xm, .ref xq, .ref xg, .ref xf, .ref xe, .int 49]))] s.heap := hP
  have hl := lv_entry ([.ref ax, .int b]) (n := 8) (Nat.le_of_ble_eq_true rfl)
  rw [lg_entry_eq]
  generalize (lg_sl ([.ref ax, .int b]) ++ List.replicate (8 - (lg_sl ([.ref ax, .int b])).length) Slot.unset).toArray = ls at hl ⊢
  replace hl : lv_has ls 8 [(0, .ref ax), (1, .int b)] := hl
  refine lv_aload_n hx hb dX11_digest_0 rfl (lv_at hl 0 rfl) ?_
  refine lv_iload_n hx hb dX11_digest_1 rfl (lv_at hl 1 rfl) ?_
  have hPc := hP.sub (ws' := []) [] rfl
  have hDc := hD.sub (ws' := []) [] (by decide) rfl
  have hFc := va_free (wc := []) hD hS hA [] rfl
  refine zx_call (E0 := "java/lang/IndexOutOfBoundsException") (vx_runV (As := [.int b]) (rest := []) ⟨hx, hb, hml, hown, hw⟩ (c_kinOf_no l D dA dZ _ hfl ax b hz) (z_cwV 1 hw mw_863 mw_865 ms_17 mw_1 mw_866 rfl rfl (by decide +kernel) ⟨Nat.le_of_ble_eq_true rfl, Nat.le_of_ble_eq_true rfl⟩) (zPreV hPc hK hDc hT hE hS hFc (va_recv hK hP (ci := 0) (q0 := 0) rfl rfl)) rfl rfl hl.1 rfl (lv_room (Nat.le_of_ble_eq_true rfl)) dX11_digest_2 ⟨Nat.le_of_ble_eq_true rfl, Nat.le_of_ble_eq_true rfl⟩) hS (fun q _ h => hFc q h) hFc (fun ce q9 H1 locs hz1 hk1 hS hce hcv hcl => ?_)
  exact vx_out (fun x hx => (hno x hx).elim) hlocks hce hcv hcl (fun t ht ha => zX_at hS ht) hS.2.2 (Nat.le_of_ble_eq_true rfl) (Nat.le_of_ble_eq_true rfl)
set_option maxHeartbeats 4000000 in
set_option maxRecDepth 100000 in
/-- errors: no such book -/
theorem c_errors_bad (l : Launch) (D : va_G) (dA : Nat → ClassId) (dZ : Nat → Nat) (sz : Nat) (hfl : l.stackTraces = false) (ax : Nat) (xt : Nat) (xp : Nat) (xs : Nat) (xl : Nat) (xb : Nat) (xk : Nat) (xm : Nat) (xq : Nat) (xg : Nat) (xf : Nat) (xe : Nat) (b : Int32) (hz : zbad b) : vx_Met l yX11_errors (wz yX11_errors cX11_errors 4 (some .int)) ({ frames := 9, cells := 1, slots := 6, locals := 200 } : Room) (va_Pc [.ref ax, .int b] (zP D dA dZ [(ax, .inr (0, [.ref xt, .ref xp, .ref xs, .ref xl, .ref xb, .ref xk, .ref xm, .ref xq, .ref xg, .ref xf, .ref xe, .int 49]))] sz)) zNo (zX "java/lang/IndexOutOfBoundsException" (va_A [(ax, .inr (0, [.ref xt, .ref xp, .ref xs, .ref xl, .ref xb, .ref xk, .ref xm, .ref xq, .ref xg, .ref xf, .ref xe, .int 49]))] sz)) 1 6 (va_A [(ax, .inr (0, [.ref xt, .ref xp, .ref xs, .ref xl, .ref xb, .ref xk, .ref xm, .ref xq, .ref xg, .ref xf, .ref xe, .int 49]))] sz) := by
  refine vx_ofW (cc := cX11_errors) (maxL := 4) (ret := (some .int)) (by decide) rfl ?_
  intro p e s m args below meth c s₁ B hml hno hv
  obtain ⟨rfl, hsz, hP, hK, hD0, hT, hE⟩ := hv
  have hx := B.exec
  have hb := B.bytes
  have hr := B.returns
  have hw := wz_hw (atoms_spec (ws := wz yX11_errors cX11_errors 4 (some .int)) B.pre)
  have hown : s.vm.findClass "KindredBooks" = some m.cls := findClass_of_methodNamed B.named
  have hlocks := B.notSynchronized
  have hn := hT.1.use (args := ([.ref ax, .int b] : List Value).toArray)
  subst hsz
  have hD := hD0.self (sz := s.heap.size)
  generalize hAe : va_A [(ax, .inr (0, [.ref xt, .ref xp, .ref xs, .ref xl, .ref xb, .ref xk, .ref xm, .ref xq, .ref xg, .ref xf, .ref xe, .int 49]))] s.heap.size = A at hD hE ⊢
  have hA : ∀ q : Nat, s.heap.size ≤ q → A q := fun q h => by rw [← hAe]; exact Or.inr h
  have hS : va_S A s.heap s.heap [] := va_S.rf
  replace hP : va_P D zcl [(ax, .inr (0, [.ref xt, .ref xp, .ref xs, .ref xl, .ref xb, .ref xk, .ref xm, .ref xq, .ref xg, .ref xf, .ref xe, .int 49]))] s.heap := hP
  have hl := lv_entry ([.ref ax, .int b]) (n := 4) (Nat.le_of_ble_eq_true rfl)
  rw [lg_entry_eq]
  generalize (lg_sl ([.ref ax, .int b]) ++ List.replicate (4 - (lg_sl ([.ref ax, .int b])).length) Slot.unset).toArray = ls at hl ⊢
  replace hl : lv_has ls 4 [(0, .ref ax), (1, .int b)] := hl
  refine lv_aload_n hx hb dX11_errors_0 rfl (lv_at hl 0 rfl) ?_
  refine lv_iload_n hx hb dX11_errors_1 rfl (lv_at hl 1 rfl) ?_
  have hPc := hP.sub (ws' := []) [] rfl
  have hDc := hD.sub (ws' := []) [] (by decide) rfl
  have hFc := va_free (wc := []) hD hS hA [] rfl
  refine zx_call (E0 := "java/lang/IndexOutOfBoundsException") (vx_runV (As := [.int b]) (rest := []) ⟨hx, hb, hml, hown, hw⟩ (c_kinOf_no l D dA dZ _ hfl ax b hz) (z_cwV 1 hw mw_863 mw_865 ms_17 mw_1 mw_866 rfl rfl (by decide +kernel) ⟨Nat.le_of_ble_eq_true rfl, Nat.le_of_ble_eq_true rfl⟩) (zPreV hPc hK hDc hT hE hS hFc (va_recv hK hP (ci := 0) (q0 := 0) rfl rfl)) rfl rfl hl.1 rfl (lv_room (Nat.le_of_ble_eq_true rfl)) dX11_errors_2 ⟨Nat.le_of_ble_eq_true rfl, Nat.le_of_ble_eq_true rfl⟩) hS (fun q _ h => hFc q h) hFc (fun ce q9 H1 locs hz1 hk1 hS hce hcv hcl => ?_)
  exact vx_out (fun x hx => (hno x hx).elim) hlocks hce hcv hcl (fun t ht ha => zX_at hS ht) hS.2.2 (Nat.le_of_ble_eq_true rfl) (Nat.le_of_ble_eq_true rfl)
set_option maxHeartbeats 4000000 in
set_option maxRecDepth 100000 in
/-- gone: no such book -/
theorem c_gone_bad (l : Launch) (D : va_G) (dA : Nat → ClassId) (dZ : Nat → Nat) (sz : Nat) (hfl : l.stackTraces = false) (ax : Nat) (xt : Nat) (xp : Nat) (xs : Nat) (xl : Nat) (xb : Nat) (xk : Nat) (xm : Nat) (xq : Nat) (xg : Nat) (xf : Nat) (xe : Nat) (b : Int32) (y0 : Int32) (hz : zbad b) : vx_Met l yX11_gone (wz yX11_gone cX11_gone 4 (some .int)) ({ frames := 9, cells := 1, slots := 6, locals := 200 } : Room) (va_Pc [.ref ax, .int b, .int y0] (zP D dA dZ [(ax, .inr (0, [.ref xt, .ref xp, .ref xs, .ref xl, .ref xb, .ref xk, .ref xm, .ref xq, .ref xg, .ref xf, .ref xe, .int 49]))] sz)) zNo (zX "java/lang/IndexOutOfBoundsException" (va_A [(ax, .inr (0, [.ref xt, .ref xp, .ref xs, .ref xl, .ref xb, .ref xk, .ref xm, .ref xq, .ref xg, .ref xf, .ref xe, .int 49]))] sz)) 1 6 (va_A [(ax, .inr (0, [.ref xt, .ref xp, .ref xs, .ref xl, .ref xb, .ref xk, .ref xm, .ref xq, .ref xg, .ref xf, .ref xe, .int 49]))] sz) := by
  refine vx_ofW (cc := cX11_gone) (maxL := 4) (ret := (some .int)) (by decide) rfl ?_
  intro p e s m args below meth c s₁ B hml hno hv
  obtain ⟨rfl, hsz, hP, hK, hD0, hT, hE⟩ := hv
  have hx := B.exec
  have hb := B.bytes
  have hr := B.returns
  have hw := wz_hw (atoms_spec (ws := wz yX11_gone cX11_gone 4 (some .int)) B.pre)
  have hown : s.vm.findClass "KindredBooks" = some m.cls := findClass_of_methodNamed B.named
  have hlocks := B.notSynchronized
  have hn := hT.1.use (args := ([.ref ax, .int b, .int y0] : List Value).toArray)
  subst hsz
  have hD := hD0.self (sz := s.heap.size)
  generalize hAe : va_A [(ax, .inr (0, [.ref xt, .ref xp, .ref xs, .ref xl, .ref xb, .ref xk, .ref xm, .ref xq, .ref xg, .ref xf, .ref xe, .int 49]))] s.heap.size = A at hD hE ⊢
  have hA : ∀ q : Nat, s.heap.size ≤ q → A q := fun q h => by rw [← hAe]; exact Or.inr h
  have hS : va_S A s.heap s.heap [] := va_S.rf
  replace hP : va_P D zcl [(ax, .inr (0, [.ref xt, .ref xp, .ref xs, .ref xl, .ref xb, .ref xk, .ref xm, .ref xq, .ref xg, .ref xf, .ref xe, .int 49]))] s.heap := hP
  have hl := lv_entry ([.ref ax, .int b, .int y0]) (n := 4) (Nat.le_of_ble_eq_true rfl)
  rw [lg_entry_eq]
  generalize (lg_sl ([.ref ax, .int b, .int y0]) ++ List.replicate (4 - (lg_sl ([.ref ax, .int b, .int y0])).length) Slot.unset).toArray = ls at hl ⊢
  replace hl : lv_has ls 4 [(0, .ref ax), (1, .int b), (2, .int y0)] := hl
  refine lv_aload_n hx hb dX11_gone_0 rfl (lv_at hl 0 rfl) ?_
  refine lv_iload_n hx hb dX11_gone_1 rfl (lv_at hl 1 rfl) ?_
  have hPc := hP.sub (ws' := []) [] rfl
  have hDc := hD.sub (ws' := []) [] (by decide) rfl
  have hFc := va_free (wc := []) hD hS hA [] rfl
  refine zx_call (E0 := "java/lang/IndexOutOfBoundsException") (vx_runV (As := [.int b]) (rest := []) ⟨hx, hb, hml, hown, hw⟩ (c_bookOf_no l D dA dZ _ hfl ax b hz) (z_cwV 1 hw mw_603 mw_605 ms_3 mw_1 mw_606 rfl rfl (by decide +kernel) ⟨Nat.le_of_ble_eq_true rfl, Nat.le_of_ble_eq_true rfl⟩) (zPreV hPc hK hDc hT hE hS hFc (va_recv hK hP (ci := 0) (q0 := 0) rfl rfl)) rfl rfl hl.1 rfl (lv_room (Nat.le_of_ble_eq_true rfl)) dX11_gone_2 ⟨Nat.le_of_ble_eq_true rfl, Nat.le_of_ble_eq_true rfl⟩) hS (fun q _ h => hFc q h) hFc (fun ce q9 H1 locs hz1 hk1 hS hce hcv hcl => ?_)
  exact vx_out (fun x hx => (hno x hx).elim) hlocks hce hcv hcl (fun t ht ha => zX_at hS ht) hS.2.2 (Nat.le_of_ble_eq_true rfl) (Nat.le_of_ble_eq_true rfl)
set_option maxHeartbeats 4000000 in
set_option maxRecDepth 100000 in
/-- back: no such book -/
theorem c_back_bad (l : Launch) (D : va_G) (dA : Nat → ClassId) (dZ : Nat → Nat) (sz : Nat) (hfl : l.stackTraces = false) (ax : Nat) (xt : Nat) (xp : Nat) (xs : Nat) (xl : Nat) (xb : Nat) (xk : Nat) (xm : Nat) (xq : Nat) (xg : Nat) (xf : Nat) (xe : Nat) (b : Int32) (y0 : Int32) (hz : zbad b) : vx_Met l yX11_back (wz yX11_back cX11_back 4 (some .int)) ({ frames := 9, cells := 1, slots := 6, locals := 200 } : Room) (va_Pc [.ref ax, .int b, .int y0] (zP D dA dZ [(ax, .inr (0, [.ref xt, .ref xp, .ref xs, .ref xl, .ref xb, .ref xk, .ref xm, .ref xq, .ref xg, .ref xf, .ref xe, .int 49]))] sz)) zNo (zX "java/lang/IndexOutOfBoundsException" (va_A [(ax, .inr (0, [.ref xt, .ref xp, .ref xs, .ref xl, .ref xb, .ref xk, .ref xm, .ref xq, .ref xg, .ref xf, .ref xe, .int 49]))] sz)) 1 6 (va_A [(ax, .inr (0, [.ref xt, .ref xp, .ref xs, .ref xl, .ref xb, .ref xk, .ref xm, .ref xq, .ref xg, .ref xf, .ref xe, .int 49]))] sz) := by
  refine vx_ofW (cc := cX11_back) (maxL := 4) (ret := (some .int)) (by decide) rfl ?_
  intro p e s m args below meth c s₁ B hml hno hv
  obtain ⟨rfl, hsz, hP, hK, hD0, hT, hE⟩ := hv
  have hx := B.exec
  have hb := B.bytes
  have hr := B.returns
  have hw := wz_hw (atoms_spec (ws := wz yX11_back cX11_back 4 (some .int)) B.pre)
  have hown : s.vm.findClass "KindredBooks" = some m.cls := findClass_of_methodNamed B.named
  have hlocks := B.notSynchronized
  have hn := hT.1.use (args := ([.ref ax, .int b, .int y0] : List Value).toArray)
  subst hsz
  have hD := hD0.self (sz := s.heap.size)
  generalize hAe : va_A [(ax, .inr (0, [.ref xt, .ref xp, .ref xs, .ref xl, .ref xb, .ref xk, .ref xm, .ref xq, .ref xg, .ref xf, .ref xe, .int 49]))] s.heap.size = A at hD hE ⊢
  have hA : ∀ q : Nat, s.heap.size ≤ q → A q := fun q h => by rw [← hAe]; exact Or.inr h
  have hS : va_S A s.heap s.heap [] := va_S.rf
  replace hP : va_P D zcl [(ax, .inr (0, [.ref xt, .ref xp, .ref xs, .ref xl, .ref xb, .ref xk, .ref xm, .ref xq, .ref xg, .ref xf, .ref xe, .int 49]))] s.heap := hP
  have hl := lv_entry ([.ref ax, .int b, .int y0]) (n := 4) (Nat.le_of_ble_eq_true rfl)
  rw [lg_entry_eq]
  generalize (lg_sl ([.ref ax, .int b, .int y0]) ++ List.replicate (4 - (lg_sl ([.ref ax, .int b, .int y0])).length) Slot.unset).toArray = ls at hl ⊢
  replace hl : lv_has ls 4 [(0, .ref ax), (1, .int b), (2, .int y0)] := hl
  refine lv_aload_n hx hb dX11_back_0 rfl (lv_at hl 0 rfl) ?_
  refine lv_iload_n hx hb dX11_back_1 rfl (lv_at hl 1 rfl) ?_
  have hPc := hP.sub (ws' := []) [] rfl
  have hDc := hD.sub (ws' := []) [] (by decide) rfl
  have hFc := va_free (wc := []) hD hS hA [] rfl
  refine zx_call (E0 := "java/lang/IndexOutOfBoundsException") (vx_runV (As := [.int b]) (rest := []) ⟨hx, hb, hml, hown, hw⟩ (c_bookOf_no l D dA dZ _ hfl ax b hz) (z_cwV 1 hw mw_603 mw_605 ms_3 mw_1 mw_606 rfl rfl (by decide +kernel) ⟨Nat.le_of_ble_eq_true rfl, Nat.le_of_ble_eq_true rfl⟩) (zPreV hPc hK hDc hT hE hS hFc (va_recv hK hP (ci := 0) (q0 := 0) rfl rfl)) rfl rfl hl.1 rfl (lv_room (Nat.le_of_ble_eq_true rfl)) dX11_back_2 ⟨Nat.le_of_ble_eq_true rfl, Nat.le_of_ble_eq_true rfl⟩) hS (fun q _ h => hFc q h) hFc (fun ce q9 H1 locs hz1 hk1 hS hce hcv hcl => ?_)
  exact vx_out (fun x hx => (hno x hx).elim) hlocks hce hcv hcl (fun t ht ha => zX_at hS ht) hS.2.2 (Nat.le_of_ble_eq_true rfl) (Nat.le_of_ble_eq_true rfl)
set_option maxHeartbeats 4000000 in
set_option maxRecDepth 100000 in
/-- hear: no such book -/
theorem c_hear_bad (l : Launch) (D : va_G) (dA : Nat → ClassId) (dZ : Nat → Nat) (sz : Nat) (hfl : l.stackTraces = false) (ax : Nat) (xt : Nat) (xp : Nat) (xs : Nat) (xl : Nat) (xb : Nat) (xk : Nat) (xm : Nat) (xq : Nat) (xg : Nat) (xf : Nat) (xe : Nat) (b : Int32) (y0 : Int32) (hz : zbad b) : vx_Met l yX11_hear (wz yX11_hear cX11_hear 4 (some .int)) ({ frames := 9, cells := 1, slots := 6, locals := 200 } : Room) (va_Pc [.ref ax, .int b, .int y0] (zP D dA dZ [(ax, .inr (0, [.ref xt, .ref xp, .ref xs, .ref xl, .ref xb, .ref xk, .ref xm, .ref xq, .ref xg, .ref xf, .ref xe, .int 49]))] sz)) zNo (zX "java/lang/IndexOutOfBoundsException" (va_A [(ax, .inr (0, [.ref xt, .ref xp, .ref xs, .ref xl, .ref xb, .ref xk, .ref xm, .ref xq, .ref xg, .ref xf, .ref xe, .int 49]))] sz)) 1 6 (va_A [(ax, .inr (0, [.ref xt, .ref xp, .ref xs, .ref xl, .ref xb, .ref xk, .ref xm, .ref xq, .ref xg, .ref xf, .ref xe, .int 49]))] sz) := by
  refine vx_ofW (cc := cX11_hear) (maxL := 4) (ret := (some .int)) (by decide) rfl ?_
  intro p e s m args below meth c s₁ B hml hno hv
  obtain ⟨rfl, hsz, hP, hK, hD0, hT, hE⟩ := hv
  have hx := B.exec
  have hb := B.bytes
  have hr := B.returns
  have hw := wz_hw (atoms_spec (ws := wz yX11_hear cX11_hear 4 (some .int)) B.pre)
  have hown : s.vm.findClass "KindredBooks" = some m.cls := findClass_of_methodNamed B.named
  have hlocks := B.notSynchronized
  have hn := hT.1.use (args := ([.ref ax, .int b, .int y0] : List Value).toArray)
  subst hsz
  have hD := hD0.self (sz := s.heap.size)
  generalize hAe : va_A [(ax, .inr (0, [.ref xt, .ref xp, .ref xs, .ref xl, .ref xb, .ref xk, .ref xm, .ref xq, .ref xg, .ref xf, .ref xe, .int 49]))] s.heap.size = A at hD hE ⊢
  have hA : ∀ q : Nat, s.heap.size ≤ q → A q := fun q h => by rw [← hAe]; exact Or.inr h
  have hS : va_S A s.heap s.heap [] := va_S.rf
  replace hP : va_P D zcl [(ax, .inr (0, [.ref xt, .ref xp, .ref xs, .ref xl, .ref xb, .ref xk, .ref xm, .ref xq, .ref xg, .ref xf, .ref xe, .int 49]))] s.heap := hP
  have hl := lv_entry ([.ref ax, .int b, .int y0]) (n := 4) (Nat.le_of_ble_eq_true rfl)
  rw [lg_entry_eq]
  generalize (lg_sl ([.ref ax, .int b, .int y0]) ++ List.replicate (4 - (lg_sl ([.ref ax, .int b, .int y0])).length) Slot.unset).toArray = ls at hl ⊢
  replace hl : lv_has ls 4 [(0, .ref ax), (1, .int b), (2, .int y0)] := hl
  refine lv_aload_n hx hb dX11_hear_0 rfl (lv_at hl 0 rfl) ?_
  refine lv_iload_n hx hb dX11_hear_1 rfl (lv_at hl 1 rfl) ?_
  have hPc := hP.sub (ws' := []) [] rfl
  have hDc := hD.sub (ws' := []) [] (by decide) rfl
  have hFc := va_free (wc := []) hD hS hA [] rfl
  refine zx_call (E0 := "java/lang/IndexOutOfBoundsException") (vx_runV (As := [.int b]) (rest := []) ⟨hx, hb, hml, hown, hw⟩ (c_bookOf_no l D dA dZ _ hfl ax b hz) (z_cwV 1 hw mw_603 mw_605 ms_3 mw_1 mw_606 rfl rfl (by decide +kernel) ⟨Nat.le_of_ble_eq_true rfl, Nat.le_of_ble_eq_true rfl⟩) (zPreV hPc hK hDc hT hE hS hFc (va_recv hK hP (ci := 0) (q0 := 0) rfl rfl)) rfl rfl hl.1 rfl (lv_room (Nat.le_of_ble_eq_true rfl)) dX11_hear_2 ⟨Nat.le_of_ble_eq_true rfl, Nat.le_of_ble_eq_true rfl⟩) hS (fun q _ h => hFc q h) hFc (fun ce q9 H1 locs hz1 hk1 hS hce hcv hcl => ?_)
  exact vx_out (fun x hx => (hno x hx).elim) hlocks hce hcv hcl (fun t ht ha => zX_at hS ht) hS.2.2 (Nat.le_of_ble_eq_true rfl) (Nat.le_of_ble_eq_true rfl)
set_option maxHeartbeats 4000000 in
set_option maxRecDepth 100000 in
/-- agree: no such book -/
theorem c_agree_bad (l : Launch) (D : va_G) (dA : Nat → ClassId) (dZ : Nat → Nat) (sz : Nat) (hfl : l.stackTraces = false) (ax : Nat) (xt : Nat) (xp : Nat) (xs : Nat) (xl : Nat) (xb : Nat) (xk : Nat) (xm : Nat) (xq : Nat) (xg : Nat) (xf : Nat) (xe : Nat) (b : Int32) (y0 : Int32) (hz : zbad b) : vx_Met l yX11_agree (wz yX11_agree cX11_agree 4 (some .boolean)) ({ frames := 9, cells := 1, slots := 6, locals := 200 } : Room) (va_Pc [.ref ax, .int b, .int y0] (zP D dA dZ [(ax, .inr (0, [.ref xt, .ref xp, .ref xs, .ref xl, .ref xb, .ref xk, .ref xm, .ref xq, .ref xg, .ref xf, .ref xe, .int 49]))] sz)) zNo (zX "java/lang/IndexOutOfBoundsException" (va_A [(ax, .inr (0, [.ref xt, .ref xp, .ref xs, .ref xl, .ref xb, .ref xk, .ref xm, .ref xq, .ref xg, .ref xf, .ref xe, .int 49]))] sz)) 1 6 (va_A [(ax, .inr (0, [.ref xt, .ref xp, .ref xs, .ref xl, .ref xb, .ref xk, .ref xm, .ref xq, .ref xg, .ref xf, .ref xe, .int 49]))] sz) := by
  refine vx_ofW (cc := cX11_agree) (maxL := 4) (ret := (some .boolean)) (by decide) rfl ?_
  intro p e s m args below meth c s₁ B hml hno hv
  obtain ⟨rfl, hsz, hP, hK, hD0, hT, hE⟩ := hv
  have hx := B.exec
  have hb := B.bytes
  have hr := B.returns
  have hw := wz_hw (atoms_spec (ws := wz yX11_agree cX11_agree 4 (some .boolean)) B.pre)
  have hown : s.vm.findClass "KindredBooks" = some m.cls := findClass_of_methodNamed B.named
  have hlocks := B.notSynchronized
  have hn := hT.1.use (args := ([.ref ax, .int b, .int y0] : List Value).toArray)
  subst hsz
  have hD := hD0.self (sz := s.heap.size)
  generalize hAe : va_A [(ax, .inr (0, [.ref xt, .ref xp, .ref xs, .ref xl, .ref xb, .ref xk, .ref xm, .ref xq, .ref xg, .ref xf, .ref xe, .int 49]))] s.heap.size = A at hD hE ⊢
  have hA : ∀ q : Nat, s.heap.size ≤ q → A q := fun q h => by rw [← hAe]; exact Or.inr h
  have hS : va_S A s.heap s.heap [] := va_S.rf
  replace hP : va_P D zcl [(ax, .inr (0, [.ref xt, .ref xp, .ref xs, .ref xl, .ref xb, .ref xk, .ref xm, .ref xq, .ref xg, .ref xf, .ref xe, .int 49]))] s.heap := hP
  have hl := lv_entry ([.ref ax, .int b, .int y0]) (n := 4) (Nat.le_of_ble_eq_true rfl)
  rw [lg_entry_eq]
  generalize (lg_sl ([.ref ax, .int b, .int y0]) ++ List.replicate (4 - (lg_sl ([.ref ax, .int b, .int y0])).length) Slot.unset).toArray = ls at hl ⊢
  replace hl : lv_has ls 4 [(0, .ref ax), (1, .int b), (2, .int y0)] := hl
  refine lv_aload_n hx hb dX11_agree_0 rfl (lv_at hl 0 rfl) ?_
  refine lv_iload_n hx hb dX11_agree_1 rfl (lv_at hl 1 rfl) ?_
  have hPc := hP.sub (ws' := []) [] rfl
  have hDc := hD.sub (ws' := []) [] (by decide) rfl
  have hFc := va_free (wc := []) hD hS hA [] rfl
  refine zx_call (E0 := "java/lang/IndexOutOfBoundsException") (vx_runV (As := [.int b]) (rest := []) ⟨hx, hb, hml, hown, hw⟩ (c_bookOf_no l D dA dZ _ hfl ax b hz) (z_cwV 1 hw mw_603 mw_605 ms_3 mw_1 mw_606 rfl rfl (by decide +kernel) ⟨Nat.le_of_ble_eq_true rfl, Nat.le_of_ble_eq_true rfl⟩) (zPreV hPc hK hDc hT hE hS hFc (va_recv hK hP (ci := 0) (q0 := 0) rfl rfl)) rfl rfl hl.1 rfl (lv_room (Nat.le_of_ble_eq_true rfl)) dX11_agree_2 ⟨Nat.le_of_ble_eq_true rfl, Nat.le_of_ble_eq_true rfl⟩) hS (fun q _ h => hFc q h) hFc (fun ce q9 H1 locs hz1 hk1 hS hce hcv hcl => ?_)
  exact vx_out (fun x hx => (hno x hx).elim) hlocks hce hcv hcl (fun t ht ha => zX_at hS ht) hS.2.2 (Nat.le_of_ble_eq_true rfl) (Nat.le_of_ble_eq_true rfl)
set_option maxHeartbeats 4000000 in
set_option maxRecDepth 100000 in
/-- counts: no such book -/
theorem c_counts_bad (l : Launch) (D : va_G) (dA : Nat → ClassId) (dZ : Nat → Nat) (sz : Nat) (hfl : l.stackTraces = false) (ax : Nat) (xt : Nat) (xp : Nat) (xs : Nat) (xl : Nat) (xb : Nat) (xk : Nat) (xm : Nat) (xq : Nat) (xg : Nat) (xf : Nat) (xe : Nat) (b : Int32) (y0 : Int32) (hz : zbad b) : vx_Met l yX11_counts (wz yX11_counts cX11_counts 4 (some .boolean)) ({ frames := 9, cells := 1, slots := 6, locals := 200 } : Room) (va_Pc [.ref ax, .int b, .int y0] (zP D dA dZ [(ax, .inr (0, [.ref xt, .ref xp, .ref xs, .ref xl, .ref xb, .ref xk, .ref xm, .ref xq, .ref xg, .ref xf, .ref xe, .int 49]))] sz)) zNo (zX "java/lang/IndexOutOfBoundsException" (va_A [(ax, .inr (0, [.ref xt, .ref xp, .ref xs, .ref xl, .ref xb, .ref xk, .ref xm, .ref xq, .ref xg, .ref xf, .ref xe, .int 49]))] sz)) 1 6 (va_A [(ax, .inr (0, [.ref xt, .ref xp, .ref xs, .ref xl, .ref xb, .ref xk, .ref xm, .ref xq, .ref xg, .ref xf, .ref xe, .int 49]))] sz) := by
  refine vx_ofW (cc := cX11_counts) (maxL := 4) (ret := (some .boolean)) (by decide) rfl ?_
  intro p e s m args below meth c s₁ B hml hno hv
  obtain ⟨rfl, hsz, hP, hK, hD0, hT, hE⟩ := hv
  have hx := B.exec
  have hb := B.bytes
  have hr := B.returns
  have hw := wz_hw (atoms_spec (ws := wz yX11_counts cX11_counts 4 (some .boolean)) B.pre)
  have hown : s.vm.findClass "KindredBooks" = some m.cls := findClass_of_methodNamed B.named
  have hlocks := B.notSynchronized
  have hn := hT.1.use (args := ([.ref ax, .int b, .int y0] : List Value).toArray)
  subst hsz
  have hD := hD0.self (sz := s.heap.size)
  generalize hAe : va_A [(ax, .inr (0, [.ref xt, .ref xp, .ref xs, .ref xl, .ref xb, .ref xk, .ref xm, .ref xq, .ref xg, .ref xf, .ref xe, .int 49]))] s.heap.size = A at hD hE ⊢
  have hA : ∀ q : Nat, s.heap.size ≤ q → A q := fun q h => by rw [← hAe]; exact Or.inr h
  have hS : va_S A s.heap s.heap [] := va_S.rf
  replace hP : va_P D zcl [(ax, .inr (0, [.ref xt, .ref xp, .ref xs, .ref xl, .ref xb, .ref xk, .ref xm, .ref xq, .ref xg, .ref xf, .ref xe, .int 49]))] s.heap := hP
  have hl := lv_entry ([.ref ax, .int b, .int y0]) (n := 4) (Nat.le_of_ble_eq_true rfl)
  rw [lg_entry_eq]
  generalize (lg_sl ([.ref ax, .int b, .int y0]) ++ List.replicate (4 - (lg_sl ([.ref ax, .int b, .int y0])).length) Slot.unset).toArray = ls at hl ⊢
  replace hl : lv_has ls 4 [(0, .ref ax), (1, .int b), (2, .int y0)] := hl
  refine lv_aload_n hx hb dX11_counts_0 rfl (lv_at hl 0 rfl) ?_
  refine lv_iload_n hx hb dX11_counts_1 rfl (lv_at hl 1 rfl) ?_
  have hPc := hP.sub (ws' := []) [] rfl
  have hDc := hD.sub (ws' := []) [] (by decide) rfl
  have hFc := va_free (wc := []) hD hS hA [] rfl
  refine zx_call (E0 := "java/lang/IndexOutOfBoundsException") (vx_runV (As := [.int b]) (rest := []) ⟨hx, hb, hml, hown, hw⟩ (c_bookOf_no l D dA dZ _ hfl ax b hz) (z_cwV 1 hw mw_603 mw_605 ms_3 mw_1 mw_606 rfl rfl (by decide +kernel) ⟨Nat.le_of_ble_eq_true rfl, Nat.le_of_ble_eq_true rfl⟩) (zPreV hPc hK hDc hT hE hS hFc (va_recv hK hP (ci := 0) (q0 := 0) rfl rfl)) rfl rfl hl.1 rfl (lv_room (Nat.le_of_ble_eq_true rfl)) dX11_counts_2 ⟨Nat.le_of_ble_eq_true rfl, Nat.le_of_ble_eq_true rfl⟩) hS (fun q _ h => hFc q h) hFc (fun ce q9 H1 locs hz1 hk1 hS hce hcv hcl => ?_)
  exact vx_out (fun x hx => (hno x hx).elim) hlocks hce hcv hcl (fun t ht ha => zX_at hS ht) hS.2.2 (Nat.le_of_ble_eq_true rfl) (Nat.le_of_ble_eq_true rfl)
set_option maxHeartbeats 4000000 in
set_option maxRecDepth 100000 in
/-- stands: no such book -/
theorem c_stands_bad (l : Launch) (D : va_G) (dA : Nat → ClassId) (dZ : Nat → Nat) (sz : Nat) (hfl : l.stackTraces = false) (ax : Nat) (xt : Nat) (xp : Nat) (xs : Nat) (xl : Nat) (xb : Nat) (xk : Nat) (xm : Nat) (xq : Nat) (xg : Nat) (xf : Nat) (xe : Nat) (b : Int32) (y0 : Int32) (hz : zbad b) : vx_Met l yX11_stands (wz yX11_stands cX11_stands 4 (some .boolean)) ({ frames := 9, cells := 1, slots := 6, locals := 200 } : Room) (va_Pc [.ref ax, .int b, .int y0] (zP D dA dZ [(ax, .inr (0, [.ref xt, .ref xp, .ref xs, .ref xl, .ref xb, .ref xk, .ref xm, .ref xq, .ref xg, .ref xf, .ref xe, .int 49]))] sz)) zNo (zX "java/lang/IndexOutOfBoundsException" (va_A [(ax, .inr (0, [.ref xt, .ref xp, .ref xs, .ref xl, .ref xb, .ref xk, .ref xm, .ref xq, .ref xg, .ref xf, .ref xe, .int 49]))] sz)) 1 6 (va_A [(ax, .inr (0, [.ref xt, .ref xp, .ref xs, .ref xl, .ref xb, .ref xk, .ref xm, .ref xq, .ref xg, .ref xf, .ref xe, .int 49]))] sz) := by
  refine vx_ofW (cc := cX11_stands) (maxL := 4) (ret := (some .boolean)) (by decide) rfl ?_
  intro p e s m args below meth c s₁ B hml hno hv
  obtain ⟨rfl, hsz, hP, hK, hD0, hT, hE⟩ := hv
  have hx := B.exec
  have hb := B.bytes
  have hr := B.returns
  have hw := wz_hw (atoms_spec (ws := wz yX11_stands cX11_stands 4 (some .boolean)) B.pre)
  have hown : s.vm.findClass "KindredBooks" = some m.cls := findClass_of_methodNamed B.named
  have hlocks := B.notSynchronized
  have hn := hT.1.use (args := ([.ref ax, .int b, .int y0] : List Value).toArray)
  subst hsz
  have hD := hD0.self (sz := s.heap.size)
  generalize hAe : va_A [(ax, .inr (0, [.ref xt, .ref xp, .ref xs, .ref xl, .ref xb, .ref xk, .ref xm, .ref xq, .ref xg, .ref xf, .ref xe, .int 49]))] s.heap.size = A at hD hE ⊢
  have hA : ∀ q : Nat, s.heap.size ≤ q → A q := fun q h => by rw [← hAe]; exact Or.inr h
  have hS : va_S A s.heap s.heap [] := va_S.rf
  replace hP : va_P D zcl [(ax, .inr (0, [.ref xt, .ref xp, .ref xs, .ref xl, .ref xb, .ref xk, .ref xm, .ref xq, .ref xg, .ref xf, .ref xe, .int 49]))] s.heap := hP
  have hl := lv_entry ([.ref ax, .int b, .int y0]) (n := 4) (Nat.le_of_ble_eq_true rfl)
  rw [lg_entry_eq]
  generalize (lg_sl ([.ref ax, .int b, .int y0]) ++ List.replicate (4 - (lg_sl ([.ref ax, .int b, .int y0])).length) Slot.unset).toArray = ls at hl ⊢
  replace hl : lv_has ls 4 [(0, .ref ax), (1, .int b), (2, .int y0)] := hl
  refine lv_aload_n hx hb dX11_stands_0 rfl (lv_at hl 0 rfl) ?_
  refine lv_iload_n hx hb dX11_stands_1 rfl (lv_at hl 1 rfl) ?_
  have hPc := hP.sub (ws' := []) [] rfl
  have hDc := hD.sub (ws' := []) [] (by decide) rfl
  have hFc := va_free (wc := []) hD hS hA [] rfl
  refine zx_call (E0 := "java/lang/IndexOutOfBoundsException") (vx_runV (As := [.int b]) (rest := []) ⟨hx, hb, hml, hown, hw⟩ (c_bookOf_no l D dA dZ _ hfl ax b hz) (z_cwV 1 hw mw_603 mw_605 ms_3 mw_1 mw_606 rfl rfl (by decide +kernel) ⟨Nat.le_of_ble_eq_true rfl, Nat.le_of_ble_eq_true rfl⟩) (zPreV hPc hK hDc hT hE hS hFc (va_recv hK hP (ci := 0) (q0 := 0) rfl rfl)) rfl rfl hl.1 rfl (lv_room (Nat.le_of_ble_eq_true rfl)) dX11_stands_2 ⟨Nat.le_of_ble_eq_true rfl, Nat.le_of_ble_eq_true rfl⟩) hS (fun q _ h => hFc q h) hFc (fun ce q9 H1 locs hz1 hk1 hS hce hcv hcl => ?_)
  exact vx_out (fun x hx => (hno x hx).elim) hlocks hce hcv hcl (fun t ht ha => zX_at hS ht) hS.2.2 (Nat.le_of_ble_eq_true rfl) (Nat.le_of_ble_eq_true rfl)
set_option maxHeartbeats 4000000 in
set_option maxRecDepth 100000 in
/-- holds: no such book -/
theorem c_holds_bad (l : Launch) (D : va_G) (dA : Nat → ClassId) (dZ : Nat → Nat) (sz : Nat) (hfl : l.stackTraces = false) (ax : Nat) (xt : Nat) (xp : Nat) (xs : Nat) (xl : Nat) (xb : Nat) (xk : Nat) (xm : Nat) (xq : Nat) (xg : Nat) (xf : Nat) (xe : Nat) (b : Int32) (y0 : Int32) (hz : zbad b) : vx_Met l yX11_holds (wz yX11_holds cX11_holds 4 (some .boolean)) ({ frames := 9, cells := 1, slots := 6, locals := 200 } : Room) (va_Pc [.ref ax, .int b, .int y0] (zP D dA dZ [(ax, .inr (0, [.ref xt, .ref xp, .ref xs, .ref xl, .ref xb, .ref xk, .ref xm, .ref xq, .ref xg, .ref xf, .ref xe, .int 49]))] sz)) zNo (zX "java/lang/IndexOutOfBoundsException" (va_A [(ax, .inr (0, [.ref xt, .ref xp, .ref xs, .ref xl, .ref xb, .ref xk, .ref xm, .ref xq, .ref xg, .ref xf, .ref xe, .int 49]))] sz)) 1 6 (va_A [(ax, .inr (0, [.ref xt, .ref xp, .ref xs, .ref xl, .ref xb, .ref xk, .ref xm, .ref xq, .ref xg, .ref xf, .ref xe, .int 49]))] sz) := by
  refine vx_ofW (cc := cX11_holds) (maxL := 4) (ret := (some .boolean)) (by decide) rfl ?_
  intro p e s m args below meth c s₁ B hml hno hv
  obtain ⟨rfl, hsz, hP, hK, hD0, hT, hE⟩ := hv
  have hx := B.exec
  have hb := B.bytes
  have hr := B.returns
  have hw := wz_hw (atoms_spec (ws := wz yX11_holds cX11_holds 4 (some .boolean)) B.pre)
  have hown : s.vm.findClass "KindredBooks" = some m.cls := findClass_of_methodNamed B.named
  have hlocks := B.notSynchronized
  have hn := hT.1.use (args := ([.ref ax, .int b, .int y0] : List Value).toArray)
  subst hsz
  have hD := hD0.self (sz := s.heap.size)
  generalize hAe : va_A [(ax, .inr (0, [.ref xt, .ref xp, .ref xs, .ref xl, .ref xb, .ref xk, .ref xm, .ref xq, .ref xg, .ref xf, .ref xe, .int 49]))] s.heap.size = A at hD hE ⊢
  have hA : ∀ q : Nat, s.heap.size ≤ q → A q := fun q h => by rw [← hAe]; exact Or.inr h
  have hS : va_S A s.heap s.heap [] := va_S.rf
  replace hP : va_P D zcl [(ax, .inr (0, [.ref xt, .ref xp, .ref xs, .ref xl, .ref xb, .ref xk, .ref xm, .ref xq, .ref xg, .ref xf, .ref xe, .int 49]))] s.heap := hP
  have hl := lv_entry ([.ref ax, .int b, .int y0]) (n := 4) (Nat.le_of_ble_eq_true rfl)
  rw [lg_entry_eq]
  generalize (lg_sl ([.ref ax, .int b, .int y0]) ++ List.replicate (4 - (lg_sl ([.ref ax, .int b, .int y0])).length) Slot.unset).toArray = ls at hl ⊢
  replace hl : lv_has ls 4 [(0, .ref ax), (1, .int b), (2, .int y0)] := hl
  refine lv_aload_n hx hb dX11_holds_0 rfl (lv_at hl 0 rfl) ?_
  refine lv_iload_n hx hb dX11_holds_1 rfl (lv_at hl 1 rfl) ?_
  have hPc := hP.sub (ws' := []) [] rfl
  have hDc := hD.sub (ws' := []) [] (by decide) rfl
  have hFc := va_free (wc := []) hD hS hA [] rfl
  refine zx_call (E0 := "java/lang/IndexOutOfBoundsException") (vx_runV (As := [.int b]) (rest := []) ⟨hx, hb, hml, hown, hw⟩ (c_kinOf_no l D dA dZ _ hfl ax b hz) (z_cwV 1 hw mw_863 mw_865 ms_17 mw_1 mw_866 rfl rfl (by decide +kernel) ⟨Nat.le_of_ble_eq_true rfl, Nat.le_of_ble_eq_true rfl⟩) (zPreV hPc hK hDc hT hE hS hFc (va_recv hK hP (ci := 0) (q0 := 0) rfl rfl)) rfl rfl hl.1 rfl (lv_room (Nat.le_of_ble_eq_true rfl)) dX11_holds_2 ⟨Nat.le_of_ble_eq_true rfl, Nat.le_of_ble_eq_true rfl⟩) hS (fun q _ h => hFc q h) hFc (fun ce q9 H1 locs hz1 hk1 hS hce hcv hcl => ?_)
  exact vx_out (fun x hx => (hno x hx).elim) hlocks hce hcv hcl (fun t ht ha => zX_at hS ht) hS.2.2 (Nat.le_of_ble_eq_true rfl) (Nat.le_of_ble_eq_true rfl)
set_option maxHeartbeats 4000000 in
set_option maxRecDepth 100000 in
/-- groupAt: no such book -/
theorem c_groupAt_bad (l : Launch) (D : va_G) (dA : Nat → ClassId) (dZ : Nat → Nat) (sz : Nat) (hfl : l.stackTraces = false) (ax : Nat) (xt : Nat) (xp : Nat) (xs : Nat) (xl : Nat) (xb : Nat) (xk : Nat) (xm : Nat) (xq : Nat) (xg : Nat) (xf : Nat) (xe : Nat) (b : Int32) (y0 : Int32) (hz : zbad b) : vx_Met l yX11_groupAt (wz yX11_groupAt cX11_groupAt 4 (some .int)) ({ frames := 9, cells := 1, slots := 6, locals := 200 } : Room) (va_Pc [.ref ax, .int b, .int y0] (zP D dA dZ [(ax, .inr (0, [.ref xt, .ref xp, .ref xs, .ref xl, .ref xb, .ref xk, .ref xm, .ref xq, .ref xg, .ref xf, .ref xe, .int 49]))] sz)) zNo (zX "java/lang/IndexOutOfBoundsException" (va_A [(ax, .inr (0, [.ref xt, .ref xp, .ref xs, .ref xl, .ref xb, .ref xk, .ref xm, .ref xq, .ref xg, .ref xf, .ref xe, .int 49]))] sz)) 1 6 (va_A [(ax, .inr (0, [.ref xt, .ref xp, .ref xs, .ref xl, .ref xb, .ref xk, .ref xm, .ref xq, .ref xg, .ref xf, .ref xe, .int 49]))] sz) := by
  refine vx_ofW (cc := cX11_groupAt) (maxL := 4) (ret := (some .int)) (by decide) rfl ?_
  intro p e s m args below meth c s₁ B hml hno hv
  obtain ⟨rfl, hsz, hP, hK, hD0, hT, hE⟩ := hv
  have hx := B.exec
  have hb := B.bytes
  have hr := B.returns
  have hw := wz_hw (atoms_spec (ws := wz yX11_groupAt cX11_groupAt 4 (some .int)) B.pre)
  have hown : s.vm.findClass "KindredBooks" = some m.cls := findClass_of_methodNamed B.named
  have hlocks := B.notSynchronized
  have hn := hT.1.use (args := ([.ref ax, .int b, .int y0] : List Value).toArray)
  subst hsz
  have hD := hD0.self (sz := s.heap.size)
  generalize hAe : va_A [(ax, .inr (0, [.ref xt, .ref xp, .ref xs, .ref xl, .ref xb, .ref xk, .ref xm, .ref xq, .ref xg, .ref xf, .ref xe, .int 49]))] s.heap.size = A at hD hE ⊢
  have hA : ∀ q : Nat, s.heap.size ≤ q → A q := fun q h => by rw [← hAe]; exact Or.inr h
  have hS : va_S A s.heap s.heap [] := va_S.rf
  replace hP : va_P D zcl [(ax, .inr (0, [.ref xt, .ref xp, .ref xs, .ref xl, .ref xb, .ref xk, .ref xm, .ref xq, .ref xg, .ref xf, .ref xe, .int 49]))] s.heap := hP
  have hl := lv_entry ([.ref ax, .int b, .int y0]) (n := 4) (Nat.le_of_ble_eq_true rfl)
  rw [lg_entry_eq]
  generalize (lg_sl ([.ref ax, .int b, .int y0]) ++ List.replicate (4 - (lg_sl ([.ref ax, .int b, .int y0])).length) Slot.unset).toArray = ls at hl ⊢
  replace hl : lv_has ls 4 [(0, .ref ax), (1, .int b), (2, .int y0)] := hl
  refine lv_aload_n hx hb dX11_groupAt_0 rfl (lv_at hl 0 rfl) ?_
  refine lv_iload_n hx hb dX11_groupAt_1 rfl (lv_at hl 1 rfl) ?_
  have hPc := hP.sub (ws' := []) [] rfl
  have hDc := hD.sub (ws' := []) [] (by decide) rfl
  have hFc := va_free (wc := []) hD hS hA [] rfl
  refine zx_call (E0 := "java/lang/IndexOutOfBoundsException") (vx_runV (As := [.int b]) (rest := []) ⟨hx, hb, hml, hown, hw⟩ (c_kinOf_no l D dA dZ _ hfl ax b hz) (z_cwV 1 hw mw_863 mw_865 ms_17 mw_1 mw_866 rfl rfl (by decide +kernel) ⟨Nat.le_of_ble_eq_true rfl, Nat.le_of_ble_eq_true rfl⟩) (zPreV hPc hK hDc hT hE hS hFc (va_recv hK hP (ci := 0) (q0 := 0) rfl rfl)) rfl rfl hl.1 rfl (lv_room (Nat.le_of_ble_eq_true rfl)) dX11_groupAt_2 ⟨Nat.le_of_ble_eq_true rfl, Nat.le_of_ble_eq_true rfl⟩) hS (fun q _ h => hFc q h) hFc (fun ce q9 H1 locs hz1 hk1 hS hce hcv hcl => ?_)
  exact vx_out (fun x hx => (hno x hx).elim) hlocks hce hcv hcl (fun t ht ha => zX_at hS ht) hS.2.2 (Nat.le_of_ble_eq_true rfl) (Nat.le_of_ble_eq_true rfl)
set_option maxHeartbeats 4000000 in
set_option maxRecDepth 100000 in
/-- groupOf: no such book -/
theorem c_groupOf_bad (l : Launch) (D : va_G) (dA : Nat → ClassId) (dZ : Nat → Nat) (sz : Nat) (hfl : l.stackTraces = false) (ax : Nat) (xt : Nat) (xp : Nat) (xs : Nat) (xl : Nat) (xb : Nat) (xk : Nat) (xm : Nat) (xq : Nat) (xg : Nat) (xf : Nat) (xe : Nat) (b : Int32) (y0 : Int32) (hz : zbad b) : vx_Met l yX11_groupOf (wz yX11_groupOf cX11_groupOf 4 (some .int)) ({ frames := 9, cells := 1, slots := 6, locals := 200 } : Room) (va_Pc [.ref ax, .int b, .int y0] (zP D dA dZ [(ax, .inr (0, [.ref xt, .ref xp, .ref xs, .ref xl, .ref xb, .ref xk, .ref xm, .ref xq, .ref xg, .ref xf, .ref xe, .int 49]))] sz)) zNo (zX "java/lang/IndexOutOfBoundsException" (va_A [(ax, .inr (0, [.ref xt, .ref xp, .ref xs, .ref xl, .ref xb, .ref xk, .ref xm, .ref xq, .ref xg, .ref xf, .ref xe, .int 49]))] sz)) 1 6 (va_A [(ax, .inr (0, [.ref xt, .ref xp, .ref xs, .ref xl, .ref xb, .ref xk, .ref xm, .ref xq, .ref xg, .ref xf, .ref xe, .int 49]))] sz) := by
  refine vx_ofW (cc := cX11_groupOf) (maxL := 4) (ret := (some .int)) (by decide) rfl ?_
  intro p e s m args below meth c s₁ B hml hno hv
  obtain ⟨rfl, hsz, hP, hK, hD0, hT, hE⟩ := hv
  have hx := B.exec
  have hb := B.bytes
  have hr := B.returns
  have hw := wz_hw (atoms_spec (ws := wz yX11_groupOf cX11_groupOf 4 (some .int)) B.pre)
  have hown : s.vm.findClass "KindredBooks" = some m.cls := findClass_of_methodNamed B.named
  have hlocks := B.notSynchronized
  have hn := hT.1.use (args := ([.ref ax, .int b, .int y0] : List Value).toArray)
  subst hsz
  have hD := hD0.self (sz := s.heap.size)
  generalize hAe : va_A [(ax, .inr (0, [.ref xt, .ref xp, .ref xs, .ref xl, .ref xb, .ref xk, .ref xm, .ref xq, .ref xg, .ref xf, .ref xe, .int 49]))] s.heap.size = A at hD hE ⊢
  have hA : ∀ q : Nat, s.heap.size ≤ q → A q := fun q h => by rw [← hAe]; exact Or.inr h
  have hS : va_S A s.heap s.heap [] := va_S.rf
  replace hP : va_P D zcl [(ax, .inr (0, [.ref xt, .ref xp, .ref xs, .ref xl, .ref xb, .ref xk, .ref xm, .ref xq, .ref xg, .ref xf, .ref xe, .int 49]))] s.heap := hP
  have hl := lv_entry ([.ref ax, .int b, .int y0]) (n := 4) (Nat.le_of_ble_eq_true rfl)
  rw [lg_entry_eq]
  generalize (lg_sl ([.ref ax, .int b, .int y0]) ++ List.replicate (4 - (lg_sl ([.ref ax, .int b, .int y0])).length) Slot.unset).toArray = ls at hl ⊢
  replace hl : lv_has ls 4 [(0, .ref ax), (1, .int b), (2, .int y0)] := hl
  refine lv_aload_n hx hb dX11_groupOf_0 rfl (lv_at hl 0 rfl) ?_
  refine lv_iload_n hx hb dX11_groupOf_1 rfl (lv_at hl 1 rfl) ?_
  have hPc := hP.sub (ws' := []) [] rfl
  have hDc := hD.sub (ws' := []) [] (by decide) rfl
  have hFc := va_free (wc := []) hD hS hA [] rfl
  refine zx_call (E0 := "java/lang/IndexOutOfBoundsException") (vx_runV (As := [.int b]) (rest := []) ⟨hx, hb, hml, hown, hw⟩ (c_kinOf_no l D dA dZ _ hfl ax b hz) (z_cwV 1 hw mw_863 mw_865 ms_17 mw_1 mw_866 rfl rfl (by decide +kernel) ⟨Nat.le_of_ble_eq_true rfl, Nat.le_of_ble_eq_true rfl⟩) (zPreV hPc hK hDc hT hE hS hFc (va_recv hK hP (ci := 0) (q0 := 0) rfl rfl)) rfl rfl hl.1 rfl (lv_room (Nat.le_of_ble_eq_true rfl)) dX11_groupOf_2 ⟨Nat.le_of_ble_eq_true rfl, Nat.le_of_ble_eq_true rfl⟩) hS (fun q _ h => hFc q h) hFc (fun ce q9 H1 locs hz1 hk1 hS hce hcv hcl => ?_)
  exact vx_out (fun x hx => (hno x hx).elim) hlocks hce hcv hcl (fun t ht ha => zX_at hS ht) hS.2.2 (Nat.le_of_ble_eq_true rfl) (Nat.le_of_ble_eq_true rfl)
set_option maxHeartbeats 4000000 in
set_option maxRecDepth 100000 in
/-- sizeOf: no such book -/
theorem c_sizeOf_bad (l : Launch) (D : va_G) (dA : Nat → ClassId) (dZ : Nat → Nat) (sz : Nat) (hfl : l.stackTraces = false) (ax : Nat) (xt : Nat) (xp : Nat) (xs : Nat) (xl : Nat) (xb : Nat) (xk : Nat) (xm : Nat) (xq : Nat) (xg : Nat) (xf : Nat) (xe : Nat) (b : Int32) (y0 : Int32) (hz : zbad b) : vx_Met l yX11_sizeOf (wz yX11_sizeOf cX11_sizeOf 4 (some .int)) ({ frames := 9, cells := 1, slots := 6, locals := 200 } : Room) (va_Pc [.ref ax, .int b, .int y0] (zP D dA dZ [(ax, .inr (0, [.ref xt, .ref xp, .ref xs, .ref xl, .ref xb, .ref xk, .ref xm, .ref xq, .ref xg, .ref xf, .ref xe, .int 49]))] sz)) zNo (zX "java/lang/IndexOutOfBoundsException" (va_A [(ax, .inr (0, [.ref xt, .ref xp, .ref xs, .ref xl, .ref xb, .ref xk, .ref xm, .ref xq, .ref xg, .ref xf, .ref xe, .int 49]))] sz)) 1 6 (va_A [(ax, .inr (0, [.ref xt, .ref xp, .ref xs, .ref xl, .ref xb, .ref xk, .ref xm, .ref xq, .ref xg, .ref xf, .ref xe, .int 49]))] sz) := by
  refine vx_ofW (cc := cX11_sizeOf) (maxL := 4) (ret := (some .int)) (by decide) rfl ?_
  intro p e s m args below meth c s₁ B hml hno hv
  obtain ⟨rfl, hsz, hP, hK, hD0, hT, hE⟩ := hv
  have hx := B.exec
  have hb := B.bytes
  have hr := B.returns
  have hw := wz_hw (atoms_spec (ws := wz yX11_sizeOf cX11_sizeOf 4 (some .int)) B.pre)
  have hown : s.vm.findClass "KindredBooks" = some m.cls := findClass_of_methodNamed B.named
  have hlocks := B.notSynchronized
  have hn := hT.1.use (args := ([.ref ax, .int b, .int y0] : List Value).toArray)
  subst hsz
  have hD := hD0.self (sz := s.heap.size)
  generalize hAe : va_A [(ax, .inr (0, [.ref xt, .ref xp, .ref xs, .ref xl, .ref xb, .ref xk, .ref xm, .ref xq, .ref xg, .ref xf, .ref xe, .int 49]))] s.heap.size = A at hD hE ⊢
  have hA : ∀ q : Nat, s.heap.size ≤ q → A q := fun q h => by rw [← hAe]; exact Or.inr h
  have hS : va_S A s.heap s.heap [] := va_S.rf
  replace hP : va_P D zcl [(ax, .inr (0, [.ref xt, .ref xp, .ref xs, .ref xl, .ref xb, .ref xk, .ref xm, .ref xq, .ref xg, .ref xf, .ref xe, .int 49]))] s.heap := hP
  have hl := lv_entry ([.ref ax, .int b, .int y0]) (n := 4) (Nat.le_of_ble_eq_true rfl)
  rw [lg_entry_eq]
  generalize (lg_sl ([.ref ax, .int b, .int y0]) ++ List.replicate (4 - (lg_sl ([.ref ax, .int b, .int y0])).length) Slot.unset).toArray = ls at hl ⊢
  replace hl : lv_has ls 4 [(0, .ref ax), (1, .int b), (2, .int y0)] := hl
  refine lv_aload_n hx hb dX11_sizeOf_0 rfl (lv_at hl 0 rfl) ?_
  refine lv_iload_n hx hb dX11_sizeOf_1 rfl (lv_at hl 1 rfl) ?_
  have hPc := hP.sub (ws' := []) [] rfl
  have hDc := hD.sub (ws' := []) [] (by decide) rfl
  have hFc := va_free (wc := []) hD hS hA [] rfl
  refine zx_call (E0 := "java/lang/IndexOutOfBoundsException") (vx_runV (As := [.int b]) (rest := []) ⟨hx, hb, hml, hown, hw⟩ (c_kinOf_no l D dA dZ _ hfl ax b hz) (z_cwV 1 hw mw_863 mw_865 ms_17 mw_1 mw_866 rfl rfl (by decide +kernel) ⟨Nat.le_of_ble_eq_true rfl, Nat.le_of_ble_eq_true rfl⟩) (zPreV hPc hK hDc hT hE hS hFc (va_recv hK hP (ci := 0) (q0 := 0) rfl rfl)) rfl rfl hl.1 rfl (lv_room (Nat.le_of_ble_eq_true rfl)) dX11_sizeOf_2 ⟨Nat.le_of_ble_eq_true rfl, Nat.le_of_ble_eq_true rfl⟩) hS (fun q _ h => hFc q h) hFc (fun ce q9 H1 locs hz1 hk1 hS hce hcv hcl => ?_)
  exact vx_out (fun x hx => (hno x hx).elim) hlocks hce hcv hcl (fun t ht ha => zX_at hS ht) hS.2.2 (Nat.le_of_ble_eq_true rfl) (Nat.le_of_ble_eq_true rfl)
set_option maxHeartbeats 4000000 in
set_option maxRecDepth 100000 in
/-- path: no such book -/
theorem c_path_bad (l : Launch) (D : va_G) (dA : Nat → ClassId) (dZ : Nat → Nat) (sz : Nat) (hfl : l.stackTraces = false) (ax : Nat) (xt : Nat) (xp : Nat) (xs : Nat) (xl : Nat) (xb : Nat) (xk : Nat) (xm : Nat) (xq : Nat) (xg : Nat) (xf : Nat) (xe : Nat) (b : Int32) (y0 : Int32) (y1 : Int32) (y2 : Int32) (hz : zbad b) : vx_Met l yX11_path (wz yX11_path cX11_path 7 (some .int)) ({ frames := 9, cells := 1, slots := 6, locals := 200 } : Room) (va_Pc [.ref ax, .int b, .int y0, .int y1, .int y2] (zP D dA dZ [(ax, .inr (0, [.ref xt, .ref xp, .ref xs, .ref xl, .ref xb, .ref xk, .ref xm, .ref xq, .ref xg, .ref xf, .ref xe, .int 49]))] sz)) zNo (zX "java/lang/IndexOutOfBoundsException" (va_A [(ax, .inr (0, [.ref xt, .ref xp, .ref xs, .ref xl, .ref xb, .ref xk, .ref xm, .ref xq, .ref xg, .ref xf, .ref xe, .int 49]))] sz)) 1 6 (va_A [(ax, .inr (0, [.ref xt, .ref xp, .ref xs, .ref xl, .ref xb, .ref xk, .ref xm, .ref xq, .ref xg, .ref xf, .ref xe, .int 49]))] sz) := by
  refine vx_ofW (cc := cX11_path) (maxL := 7) (ret := (some .int)) (by decide) rfl ?_
  intro p e s m args below meth c s₁ B hml hno hv
  obtain ⟨rfl, hsz, hP, hK, hD0, hT, hE⟩ := hv
  have hx := B.exec
  have hb := B.bytes
  have hr := B.returns
  have hw := wz_hw (atoms_spec (ws := wz yX11_path cX11_path 7 (some .int)) B.pre)
  have hown : s.vm.findClass "KindredBooks" = some m.cls := findClass_of_methodNamed B.named
  have hlocks := B.notSynchronized
  have hn := hT.1.use (args := ([.ref ax, .int b, .int y0, .int y1, .int y2] : List Value).toArray)
  subst hsz
  have hD := hD0.self (sz := s.heap.size)
  generalize hAe : va_A [(ax, .inr (0, [.ref xt, .ref xp, .ref xs, .ref xl, .ref xb, .ref xk, .ref xm, .ref xq, .ref xg, .ref xf, .ref xe, .int 49]))] s.heap.size = A at hD hE ⊢
  have hA : ∀ q : Nat, s.heap.size ≤ q → A q := fun q h => by rw [← hAe]; exact Or.inr h
  have hS : va_S A s.heap s.heap [] := va_S.rf
  replace hP : va_P D zcl [(ax, .inr (0, [.ref xt, .ref xp, .ref xs, .ref xl, .ref xb, .ref xk, .ref xm, .ref xq, .ref xg, .ref xf, .ref xe, .int 49]))] s.heap := hP
  have hl := lv_entry ([.ref ax, .int b, .int y0, .int y1, .int y2]) (n := 7) (Nat.le_of_ble_eq_true rfl)
  rw [lg_entry_eq]
  generalize (lg_sl ([.ref ax, .int b, .int y0, .int y1, .int y2]) ++ List.replicate (7 - (lg_sl ([.ref ax, .int b, .int y0, .int y1, .int y2])).length) Slot.unset).toArray = ls at hl ⊢
  replace hl : lv_has ls 7 [(0, .ref ax), (1, .int b), (2, .int y0), (3, .int y1), (4, .int y2)] := hl
  refine lv_aload_n hx hb dX11_path_0 rfl (lv_at hl 0 rfl) ?_
  refine lv_iload_n hx hb dX11_path_1 rfl (lv_at hl 1 rfl) ?_
  have hPc := hP.sub (ws' := []) [] rfl
  have hDc := hD.sub (ws' := []) [] (by decide) rfl
  have hFc := va_free (wc := []) hD hS hA [] rfl
  refine zx_call (E0 := "java/lang/IndexOutOfBoundsException") (vx_runV (As := [.int b]) (rest := []) ⟨hx, hb, hml, hown, hw⟩ (c_kinOf_no l D dA dZ _ hfl ax b hz) (z_cwV 1 hw mw_863 mw_865 ms_17 mw_1 mw_866 rfl rfl (by decide +kernel) ⟨Nat.le_of_ble_eq_true rfl, Nat.le_of_ble_eq_true rfl⟩) (zPreV hPc hK hDc hT hE hS hFc (va_recv hK hP (ci := 0) (q0 := 0) rfl rfl)) rfl rfl hl.1 rfl (lv_room (Nat.le_of_ble_eq_true rfl)) dX11_path_2 ⟨Nat.le_of_ble_eq_true rfl, Nat.le_of_ble_eq_true rfl⟩) hS (fun q _ h => hFc q h) hFc (fun ce q9 H1 locs hz1 hk1 hS hce hcv hcl => ?_)
  exact vx_out (fun x hx => (hno x hx).elim) hlocks hce hcv hcl (fun t ht ha => zX_at hS ht) hS.2.2 (Nat.le_of_ble_eq_true rfl) (Nat.le_of_ble_eq_true rfl)
set_option maxHeartbeats 4000000 in
set_option maxRecDepth 100000 in
/-- forbids: no such book -/
theorem c_forbids_bad (l : Launch) (D : va_G) (dA : Nat → ClassId) (dZ : Nat → Nat) (sz : Nat) (hfl : l.stackTraces = false) (ax : Nat) (xt : Nat) (xp : Nat) (xs : Nat) (xl : Nat) (xb : Nat) (xk : Nat) (xm : Nat) (xq : Nat) (xg : Nat) (xf : Nat) (xe : Nat) (b : Int32) (y0 : Int32) (y1 : Int32) (hz : zbad b) : vx_Met l yX11_forbids (wz yX11_forbids cX11_forbids 5 (some .int)) ({ frames := 9, cells := 1, slots := 6, locals := 200 } : Room) (va_Pc [.ref ax, .int b, .int y0, .int y1] (zP D dA dZ [(ax, .inr (0, [.ref xt, .ref xp, .ref xs, .ref xl, .ref xb, .ref xk, .ref xm, .ref xq, .ref xg, .ref xf, .ref xe, .int 49]))] sz)) zNo (zX "java/lang/IndexOutOfBoundsException" (va_A [(ax, .inr (0, [.ref xt, .ref xp, .ref xs, .ref xl, .ref xb, .ref xk, .ref xm, .ref xq, .ref xg, .ref xf, .ref xe, .int 49]))] sz)) 1 6 (va_A [(ax, .inr (0, [.ref xt, .ref xp, .ref xs, .ref xl, .ref xb, .ref xk, .ref xm, .ref xq, .ref xg, .ref xf, .ref xe, .int 49]))] sz) := by
  refine vx_ofW (cc := cX11_forbids) (maxL := 5) (ret := (some .int)) (by decide) rfl ?_
  intro p e s m args below meth c s₁ B hml hno hv
  obtain ⟨rfl, hsz, hP, hK, hD0, hT, hE⟩ := hv
  have hx := B.exec
  have hb := B.bytes
  have hr := B.returns
  have hw := wz_hw (atoms_spec (ws := wz yX11_forbids cX11_forbids 5 (some .int)) B.pre)
  have hown : s.vm.findClass "KindredBooks" = some m.cls := findClass_of_methodNamed B.named
  have hlocks := B.notSynchronized
  have hn := hT.1.use (args := ([.ref ax, .int b, .int y0, .int y1] : List Value).toArray)
  subst hsz
  have hD := hD0.self (sz := s.heap.size)
  generalize hAe : va_A [(ax, .inr (0, [.ref xt, .ref xp, .ref xs, .ref xl, .ref xb, .ref xk, .ref xm, .ref xq, .ref xg, .ref xf, .ref xe, .int 49]))] s.heap.size = A at hD hE ⊢
  have hA : ∀ q : Nat, s.heap.size ≤ q → A q := fun q h => by rw [← hAe]; exact Or.inr h
  have hS : va_S A s.heap s.heap [] := va_S.rf
  replace hP : va_P D zcl [(ax, .inr (0, [.ref xt, .ref xp, .ref xs, .ref xl, .ref xb, .ref xk, .ref xm, .ref xq, .ref xg, .ref xf, .ref xe, .int 49]))] s.heap := hP
  have hl := lv_entry ([.ref ax, .int b, .int y0, .int y1]) (n := 5) (Nat.le_of_ble_eq_true rfl)
  rw [lg_entry_eq]
  generalize (lg_sl ([.ref ax, .int b, .int y0, .int y1]) ++ List.replicate (5 - (lg_sl ([.ref ax, .int b, .int y0, .int y1])).length) Slot.unset).toArray = ls at hl ⊢
  replace hl : lv_has ls 5 [(0, .ref ax), (1, .int b), (2, .int y0), (3, .int y1)] := hl
  refine lv_aload_n hx hb dX11_forbids_0 rfl (lv_at hl 0 rfl) ?_
  refine lv_iload_n hx hb dX11_forbids_1 rfl (lv_at hl 1 rfl) ?_
  have hPc := hP.sub (ws' := []) [] rfl
  have hDc := hD.sub (ws' := []) [] (by decide) rfl
  have hFc := va_free (wc := []) hD hS hA [] rfl
  refine zx_call (E0 := "java/lang/IndexOutOfBoundsException") (vx_runV (As := [.int b]) (rest := []) ⟨hx, hb, hml, hown, hw⟩ (c_kinOf_no l D dA dZ _ hfl ax b hz) (z_cwV 1 hw mw_863 mw_865 ms_17 mw_1 mw_866 rfl rfl (by decide +kernel) ⟨Nat.le_of_ble_eq_true rfl, Nat.le_of_ble_eq_true rfl⟩) (zPreV hPc hK hDc hT hE hS hFc (va_recv hK hP (ci := 0) (q0 := 0) rfl rfl)) rfl rfl hl.1 rfl (lv_room (Nat.le_of_ble_eq_true rfl)) dX11_forbids_2 ⟨Nat.le_of_ble_eq_true rfl, Nat.le_of_ble_eq_true rfl⟩) hS (fun q _ h => hFc q h) hFc (fun ce q9 H1 locs hz1 hk1 hS hce hcv hcl => ?_)
  exact vx_out (fun x hx => (hno x hx).elim) hlocks hce hcv hcl (fun t ht ha => zX_at hS ht) hS.2.2 (Nat.le_of_ble_eq_true rfl) (Nat.le_of_ble_eq_true rfl)
set_option maxHeartbeats 4000000 in
set_option maxRecDepth 100000 in
/-- shown: no such book -/
theorem c_shown_bad (l : Launch) (D : va_G) (dA : Nat → ClassId) (dZ : Nat → Nat) (sz : Nat) (hfl : l.stackTraces = false) (ax : Nat) (xt : Nat) (xp : Nat) (xs : Nat) (xl : Nat) (xb : Nat) (xk : Nat) (xm : Nat) (xq : Nat) (xg : Nat) (xf : Nat) (xe : Nat) (b : Int32) (y0 : Int32) (y1 : Int32) (hz : zbad b) : vx_Met l yX11_shown (wz yX11_shown cX11_shown 5 (some .int)) ({ frames := 9, cells := 1, slots := 6, locals := 200 } : Room) (va_Pc [.ref ax, .int b, .int y0, .int y1] (zP D dA dZ [(ax, .inr (0, [.ref xt, .ref xp, .ref xs, .ref xl, .ref xb, .ref xk, .ref xm, .ref xq, .ref xg, .ref xf, .ref xe, .int 49]))] sz)) zNo (zX "java/lang/IndexOutOfBoundsException" (va_A [(ax, .inr (0, [.ref xt, .ref xp, .ref xs, .ref xl, .ref xb, .ref xk, .ref xm, .ref xq, .ref xg, .ref xf, .ref xe, .int 49]))] sz)) 1 6 (va_A [(ax, .inr (0, [.ref xt, .ref xp, .ref xs, .ref xl, .ref xb, .ref xk, .ref xm, .ref xq, .ref xg, .ref xf, .ref xe, .int 49]))] sz) := by
  refine vx_ofW (cc := cX11_shown) (maxL := 5) (ret := (some .int)) (by decide) rfl ?_
  intro p e s m args below meth c s₁ B hml hno hv
  obtain ⟨rfl, hsz, hP, hK, hD0, hT, hE⟩ := hv
  have hx := B.exec
  have hb := B.bytes
  have hr := B.returns
  have hw := wz_hw (atoms_spec (ws := wz yX11_shown cX11_shown 5 (some .int)) B.pre)
  have hown : s.vm.findClass "KindredBooks" = some m.cls := findClass_of_methodNamed B.named
  have hlocks := B.notSynchronized
  have hn := hT.1.use (args := ([.ref ax, .int b, .int y0, .int y1] : List Value).toArray)
  subst hsz
  have hD := hD0.self (sz := s.heap.size)
  generalize hAe : va_A [(ax, .inr (0, [.ref xt, .ref xp, .ref xs, .ref xl, .ref xb, .ref xk, .ref xm, .ref xq, .ref xg, .ref xf, .ref xe, .int 49]))] s.heap.size = A at hD hE ⊢
  have hA : ∀ q : Nat, s.heap.size ≤ q → A q := fun q h => by rw [← hAe]; exact Or.inr h
  have hS : va_S A s.heap s.heap [] := va_S.rf
  replace hP : va_P D zcl [(ax, .inr (0, [.ref xt, .ref xp, .ref xs, .ref xl, .ref xb, .ref xk, .ref xm, .ref xq, .ref xg, .ref xf, .ref xe, .int 49]))] s.heap := hP
  have hl := lv_entry ([.ref ax, .int b, .int y0, .int y1]) (n := 5) (Nat.le_of_ble_eq_true rfl)
  rw [lg_entry_eq]
  generalize (lg_sl ([.ref ax, .int b, .int y0, .int y1]) ++ List.replicate (5 - (lg_sl ([.ref ax, .int b, .int y0, .int y1])).length) Slot.unset).toArray = ls at hl ⊢
  replace hl : lv_has ls 5 [(0, .ref ax), (1, .int b), (2, .int y0), (3, .int y1)] := hl
  refine lv_aload_n hx hb dX11_shown_0 rfl (lv_at hl 0 rfl) ?_
  refine lv_iload_n hx hb dX11_shown_1 rfl (lv_at hl 1 rfl) ?_
  have hPc := hP.sub (ws' := []) [] rfl
  have hDc := hD.sub (ws' := []) [] (by decide) rfl
  have hFc := va_free (wc := []) hD hS hA [] rfl
  refine zx_call (E0 := "java/lang/IndexOutOfBoundsException") (vx_runV (As := [.int b]) (rest := []) ⟨hx, hb, hml, hown, hw⟩ (c_kinOf_no l D dA dZ _ hfl ax b hz) (z_cwV 1 hw mw_863 mw_865 ms_17 mw_1 mw_866 rfl rfl (by decide +kernel) ⟨Nat.le_of_ble_eq_true rfl, Nat.le_of_ble_eq_true rfl⟩) (zPreV hPc hK hDc hT hE hS hFc (va_recv hK hP (ci := 0) (q0 := 0) rfl rfl)) rfl rfl hl.1 rfl (lv_room (Nat.le_of_ble_eq_true rfl)) dX11_shown_2 ⟨Nat.le_of_ble_eq_true rfl, Nat.le_of_ble_eq_true rfl⟩) hS (fun q _ h => hFc q h) hFc (fun ce q9 H1 locs hz1 hk1 hS hce hcv hcl => ?_)
  exact vx_out (fun x hx => (hno x hx).elim) hlocks hce hcv hcl (fun t ht ha => zX_at hS ht) hS.2.2 (Nat.le_of_ble_eq_true rfl) (Nat.le_of_ble_eq_true rfl)
set_option maxHeartbeats 4000000 in
set_option maxRecDepth 100000 in
/-- shownAt: no such book -/
theorem c_shownAt_bad (l : Launch) (D : va_G) (dA : Nat → ClassId) (dZ : Nat → Nat) (sz : Nat) (hfl : l.stackTraces = false) (ax : Nat) (xt : Nat) (xp : Nat) (xs : Nat) (xl : Nat) (xb : Nat) (xk : Nat) (xm : Nat) (xq : Nat) (xg : Nat) (xf : Nat) (xe : Nat) (b : Int32) (y0 : Int32) (y1 : Int32) (y2 : Int32) (hz : zbad b) : vx_Met l yX11_shownAt (wz yX11_shownAt cX11_shownAt 7 (some .int)) ({ frames := 9, cells := 1, slots := 6, locals := 200 } : Room) (va_Pc [.ref ax, .int b, .int y0, .int y1, .int y2] (zP D dA dZ [(ax, .inr (0, [.ref xt, .ref xp, .ref xs, .ref xl, .ref xb, .ref xk, .ref xm, .ref xq, .ref xg, .ref xf, .ref xe, .int 49]))] sz)) zNo (zX "java/lang/IndexOutOfBoundsException" (va_A [(ax, .inr (0, [.ref xt, .ref xp, .ref xs, .ref xl, .ref xb, .ref xk, .ref xm, .ref xq, .ref xg, .ref xf, .ref xe, .int 49]))] sz)) 1 6 (va_A [(ax, .inr (0, [.ref xt, .ref xp, .ref xs, .ref xl, .ref xb, .ref xk, .ref xm, .ref xq, .ref xg, .ref xf, .ref xe, .int 49]))] sz) := by
  refine vx_ofW (cc := cX11_shownAt) (maxL := 7) (ret := (some .int)) (by decide) rfl ?_
  intro p e s m args below meth c s₁ B hml hno hv
  obtain ⟨rfl, hsz, hP, hK, hD0, hT, hE⟩ := hv
  have hx := B.exec
  have hb := B.bytes
  have hr := B.returns
  have hw := wz_hw (atoms_spec (ws := wz yX11_shownAt cX11_shownAt 7 (some .int)) B.pre)
  have hown : s.vm.findClass "KindredBooks" = some m.cls := findClass_of_methodNamed B.named
  have hlocks := B.notSynchronized
  have hn := hT.1.use (args := ([.ref ax, .int b, .int y0, .int y1, .int y2] : List Value).toArray)
  subst hsz
  have hD := hD0.self (sz := s.heap.size)
  generalize hAe : va_A [(ax, .inr (0, [.ref xt, .ref xp, .ref xs, .ref xl, .ref xb, .ref xk, .ref xm, .ref xq, .ref xg, .ref xf, .ref xe, .int 49]))] s.heap.size = A at hD hE ⊢
  have hA : ∀ q : Nat, s.heap.size ≤ q → A q := fun q h => by rw [← hAe]; exact Or.inr h
  have hS : va_S A s.heap s.heap [] := va_S.rf
  replace hP : va_P D zcl [(ax, .inr (0, [.ref xt, .ref xp, .ref xs, .ref xl, .ref xb, .ref xk, .ref xm, .ref xq, .ref xg, .ref xf, .ref xe, .int 49]))] s.heap := hP
  have hl := lv_entry ([.ref ax, .int b, .int y0, .int y1, .int y2]) (n := 7) (Nat.le_of_ble_eq_true rfl)
  rw [lg_entry_eq]
  generalize (lg_sl ([.ref ax, .int b, .int y0, .int y1, .int y2]) ++ List.replicate (7 - (lg_sl ([.ref ax, .int b, .int y0, .int y1, .int y2])).length) Slot.unset).toArray = ls at hl ⊢
  replace hl : lv_has ls 7 [(0, .ref ax), (1, .int b), (2, .int y0), (3, .int y1), (4, .int y2)] := hl
  refine lv_aload_n hx hb dX11_shownAt_0 rfl (lv_at hl 0 rfl) ?_
  refine lv_iload_n hx hb dX11_shownAt_1 rfl (lv_at hl 1 rfl) ?_
  have hPc := hP.sub (ws' := []) [] rfl
  have hDc := hD.sub (ws' := []) [] (by decide) rfl
  have hFc := va_free (wc := []) hD hS hA [] rfl
  refine zx_call (E0 := "java/lang/IndexOutOfBoundsException") (vx_runV (As := [.int b]) (rest := []) ⟨hx, hb, hml, hown, hw⟩ (c_kinOf_no l D dA dZ _ hfl ax b hz) (z_cwV 1 hw mw_863 mw_865 ms_17 mw_1 mw_866 rfl rfl (by decide +kernel) ⟨Nat.le_of_ble_eq_true rfl, Nat.le_of_ble_eq_true rfl⟩) (zPreV hPc hK hDc hT hE hS hFc (va_recv hK hP (ci := 0) (q0 := 0) rfl rfl)) rfl rfl hl.1 rfl (lv_room (Nat.le_of_ble_eq_true rfl)) dX11_shownAt_2 ⟨Nat.le_of_ble_eq_true rfl, Nat.le_of_ble_eq_true rfl⟩) hS (fun q _ h => hFc q h) hFc (fun ce q9 H1 locs hz1 hk1 hS hce hcv hcl => ?_)
  exact vx_out (fun x hx => (hno x hx).elim) hlocks hce hcv hcl (fun t ht ha => zX_at hS ht) hS.2.2 (Nat.le_of_ble_eq_true rfl) (Nat.le_of_ble_eq_true rfl)
set_option maxHeartbeats 4000000 in
set_option maxRecDepth 100000 in
/-- values: no such book -/
theorem c_values_bad (l : Launch) (D : va_G) (dA : Nat → ClassId) (dZ : Nat → Nat) (sz : Nat) (hfl : l.stackTraces = false) (ax : Nat) (xt : Nat) (xp : Nat) (xs : Nat) (xl : Nat) (xb : Nat) (xk : Nat) (xm : Nat) (xq : Nat) (xg : Nat) (xf : Nat) (xe : Nat) (b : Int32) (y0 : Int32) (y1 : Int32) (hz : zbad b) : vx_Met l yX11_values (wz yX11_values cX11_values 5 (some .int)) ({ frames := 9, cells := 1, slots := 6, locals := 200 } : Room) (va_Pc [.ref ax, .int b, .int y0, .int y1] (zP D dA dZ [(ax, .inr (0, [.ref xt, .ref xp, .ref xs, .ref xl, .ref xb, .ref xk, .ref xm, .ref xq, .ref xg, .ref xf, .ref xe, .int 49]))] sz)) zNo (zX "java/lang/IndexOutOfBoundsException" (va_A [(ax, .inr (0, [.ref xt, .ref xp, .ref xs, .ref xl, .ref xb, .ref xk, .ref xm, .ref xq, .ref xg, .ref xf, .ref xe, .int 49]))] sz)) 1 6 (va_A [(ax, .inr (0, [.ref xt, .ref xp, .ref xs, .ref xl, .ref xb, .ref xk, .ref xm, .ref xq, .ref xg, .ref xf, .ref xe, .int 49]))] sz) := by
  refine vx_ofW (cc := cX11_values) (maxL := 5) (ret := (some .int)) (by decide) rfl ?_
  intro p e s m args below meth c s₁ B hml hno hv
  obtain ⟨rfl, hsz, hP, hK, hD0, hT, hE⟩ := hv
  have hx := B.exec
  have hb := B.bytes
  have hr := B.returns
  have hw := wz_hw (atoms_spec (ws := wz yX11_values cX11_values 5 (some .int)) B.pre)
  have hown : s.vm.findClass "KindredBooks" = some m.cls := findClass_of_methodNamed B.named
  have hlocks := B.notSynchronized
  have hn := hT.1.use (args := ([.ref ax, .int b, .int y0, .int y1] : List Value).toArray)
  subst hsz
  have hD := hD0.self (sz := s.heap.size)
  generalize hAe : va_A [(ax, .inr (0, [.ref xt, .ref xp, .ref xs, .ref xl, .ref xb, .ref xk, .ref xm, .ref xq, .ref xg, .ref xf, .ref xe, .int 49]))] s.heap.size = A at hD hE ⊢
  have hA : ∀ q : Nat, s.heap.size ≤ q → A q := fun q h => by rw [← hAe]; exact Or.inr h
  have hS : va_S A s.heap s.heap [] := va_S.rf
  replace hP : va_P D zcl [(ax, .inr (0, [.ref xt, .ref xp, .ref xs, .ref xl, .ref xb, .ref xk, .ref xm, .ref xq, .ref xg, .ref xf, .ref xe, .int 49]))] s.heap := hP
  have hl := lv_entry ([.ref ax, .int b, .int y0, .int y1]) (n := 5) (Nat.le_of_ble_eq_true rfl)
  rw [lg_entry_eq]
  generalize (lg_sl ([.ref ax, .int b, .int y0, .int y1]) ++ List.replicate (5 - (lg_sl ([.ref ax, .int b, .int y0, .int y1])).length) Slot.unset).toArray = ls at hl ⊢
  replace hl : lv_has ls 5 [(0, .ref ax), (1, .int b), (2, .int y0), (3, .int y1)] := hl
  refine lv_aload_n hx hb dX11_values_0 rfl (lv_at hl 0 rfl) ?_
  refine lv_iload_n hx hb dX11_values_1 rfl (lv_at hl 1 rfl) ?_
  have hPc := hP.sub (ws' := []) [] rfl
  have hDc := hD.sub (ws' := []) [] (by decide) rfl
  have hFc := va_free (wc := []) hD hS hA [] rfl
  refine zx_call (E0 := "java/lang/IndexOutOfBoundsException") (vx_runV (As := [.int b]) (rest := []) ⟨hx, hb, hml, hown, hw⟩ (c_kinOf_no l D dA dZ _ hfl ax b hz) (z_cwV 1 hw mw_863 mw_865 ms_17 mw_1 mw_866 rfl rfl (by decide +kernel) ⟨Nat.le_of_ble_eq_true rfl, Nat.le_of_ble_eq_true rfl⟩) (zPreV hPc hK hDc hT hE hS hFc (va_recv hK hP (ci := 0) (q0 := 0) rfl rfl)) rfl rfl hl.1 rfl (lv_room (Nat.le_of_ble_eq_true rfl)) dX11_values_2 ⟨Nat.le_of_ble_eq_true rfl, Nat.le_of_ble_eq_true rfl⟩) hS (fun q _ h => hFc q h) hFc (fun ce q9 H1 locs hz1 hk1 hS hce hcv hcl => ?_)
  exact vx_out (fun x hx => (hno x hx).elim) hlocks hce hcv hcl (fun t ht ha => zX_at hS ht) hS.2.2 (Nat.le_of_ble_eq_true rfl) (Nat.le_of_ble_eq_true rfl)
set_option maxHeartbeats 4000000 in
set_option maxRecDepth 100000 in
/-- likeness: no such book -/
theorem c_likeness_bad (l : Launch) (D : va_G) (dA : Nat → ClassId) (dZ : Nat → Nat) (sz : Nat) (hfl : l.stackTraces = false) (ax : Nat) (xt : Nat) (xp : Nat) (xs : Nat) (xl : Nat) (xb : Nat) (xk : Nat) (xm : Nat) (xq : Nat) (xg : Nat) (xf : Nat) (xe : Nat) (b : Int32) (y0 : Int32) (y1 : Int32) (hz : zbad b) : vx_Met l yX11_likeness (wz yX11_likeness cX11_likeness 7 (some .int)) ({ frames := 9, cells := 1, slots := 6, locals := 200 } : Room) (va_Pc [.ref ax, .int b, .int y0, .int y1] (zP D dA dZ [(ax, .inr (0, [.ref xt, .ref xp, .ref xs, .ref xl, .ref xb, .ref xk, .ref xm, .ref xq, .ref xg, .ref xf, .ref xe, .int 49]))] sz)) zNo (zX "java/lang/IndexOutOfBoundsException" (va_A [(ax, .inr (0, [.ref xt, .ref xp, .ref xs, .ref xl, .ref xb, .ref xk, .ref xm, .ref xq, .ref xg, .ref xf, .ref xe, .int 49]))] sz)) 1 6 (va_A [(ax, .inr (0, [.ref xt, .ref xp, .ref xs, .ref xl, .ref xb, .ref xk, .ref xm, .ref xq, .ref xg, .ref xf, .ref xe, .int 49]))] sz) := by
  refine vx_ofW (cc := cX11_likeness) (maxL := 7) (ret := (some .int)) (by decide) rfl ?_
  intro p e s m args below meth c s₁ B hml hno hv
  obtain ⟨rfl, hsz, hP, hK, hD0, hT, hE⟩ := hv
  have hx := B.exec
  have hb := B.bytes
  have hr := B.returns
  have hw := wz_hw (atoms_spec (ws := wz yX11_likeness cX11_likeness 7 (some .int)) B.pre)
  have hown : s.vm.findClass "KindredBooks" = some m.cls := findClass_of_methodNamed B.named
  have hlocks := B.notSynchronized
  have hn := hT.1.use (args := ([.ref ax, .int b, .int y0, .int y1] : List Value).toArray)
  subst hsz
  have hD := hD0.self (sz := s.heap.size)
  generalize hAe : va_A [(ax, .inr (0, [.ref xt, .ref xp, .ref xs, .ref xl, .ref xb, .ref xk, .ref xm, .ref xq, .ref xg, .ref xf, .ref xe, .int 49]))] s.heap.size = A at hD hE ⊢
  have hA : ∀ q : Nat, s.heap.size ≤ q → A q := fun q h => by rw [← hAe]; exact Or.inr h
  have hS : va_S A s.heap s.heap [] := va_S.rf
  replace hP : va_P D zcl [(ax, .inr (0, [.ref xt, .ref xp, .ref xs, .ref xl, .ref xb, .ref xk, .ref xm, .ref xq, .ref xg, .ref xf, .ref xe, .int 49]))] s.heap := hP
  have hl := lv_entry ([.ref ax, .int b, .int y0, .int y1]) (n := 7) (Nat.le_of_ble_eq_true rfl)
  rw [lg_entry_eq]
  generalize (lg_sl ([.ref ax, .int b, .int y0, .int y1]) ++ List.replicate (7 - (lg_sl ([.ref ax, .int b, .int y0, .int y1])).length) Slot.unset).toArray = ls at hl ⊢
  replace hl : lv_has ls 7 [(0, .ref ax), (1, .int b), (2, .int y0), (3, .int y1)] := hl
  refine lv_aload_n hx hb dX11_likeness_0 rfl (lv_at hl 0 rfl) ?_
  refine lv_iload_n hx hb dX11_likeness_1 rfl (lv_at hl 1 rfl) ?_
  have hPc := hP.sub (ws' := []) [] rfl
  have hDc := hD.sub (ws' := []) [] (by decide) rfl
  have hFc := va_free (wc := []) hD hS hA [] rfl
  refine zx_call (E0 := "java/lang/IndexOutOfBoundsException") (vx_runV (As := [.int b]) (rest := []) ⟨hx, hb, hml, hown, hw⟩ (c_kinOf_no l D dA dZ _ hfl ax b hz) (z_cwV 1 hw mw_863 mw_865 ms_17 mw_1 mw_866 rfl rfl (by decide +kernel) ⟨Nat.le_of_ble_eq_true rfl, Nat.le_of_ble_eq_true rfl⟩) (zPreV hPc hK hDc hT hE hS hFc (va_recv hK hP (ci := 0) (q0 := 0) rfl rfl)) rfl rfl hl.1 rfl (lv_room (Nat.le_of_ble_eq_true rfl)) dX11_likeness_2 ⟨Nat.le_of_ble_eq_true rfl, Nat.le_of_ble_eq_true rfl⟩) hS (fun q _ h => hFc q h) hFc (fun ce q9 H1 locs hz1 hk1 hS hce hcv hcl => ?_)
  exact vx_out (fun x hx => (hno x hx).elim) hlocks hce hcv hcl (fun t ht ha => zX_at hS ht) hS.2.2 (Nat.le_of_ble_eq_true rfl) (Nat.le_of_ble_eq_true rfl)
set_option maxHeartbeats 4000000 in
set_option maxRecDepth 100000 in
/-- suggest: no such book -/
theorem c_suggest_bad (l : Launch) (D : va_G) (dA : Nat → ClassId) (dZ : Nat → Nat) (sz : Nat) (hfl : l.stackTraces = false) (ax : Nat) (xt : Nat) (xp : Nat) (xs : Nat) (xl : Nat) (xb : Nat) (xk : Nat) (xm : Nat) (xq : Nat) (xg : Nat) (xf : Nat) (xe : Nat) (b : Int32) (y0 : Int32) (hz : zbad b) : vx_Met l yX11_suggest (wz yX11_suggest cX11_suggest 6 (some .int)) ({ frames := 9, cells := 1, slots := 6, locals := 200 } : Room) (va_Pc [.ref ax, .int b, .int y0] (zP D dA dZ [(ax, .inr (0, [.ref xt, .ref xp, .ref xs, .ref xl, .ref xb, .ref xk, .ref xm, .ref xq, .ref xg, .ref xf, .ref xe, .int 49]))] sz)) zNo (zX "java/lang/IndexOutOfBoundsException" (va_A [(ax, .inr (0, [.ref xt, .ref xp, .ref xs, .ref xl, .ref xb, .ref xk, .ref xm, .ref xq, .ref xg, .ref xf, .ref xe, .int 49]))] sz)) 1 6 (va_A [(ax, .inr (0, [.ref xt, .ref xp, .ref xs, .ref xl, .ref xb, .ref xk, .ref xm, .ref xq, .ref xg, .ref xf, .ref xe, .int 49]))] sz) := by
  refine vx_ofW (cc := cX11_suggest) (maxL := 6) (ret := (some .int)) (by decide) rfl ?_
  intro p e s m args below meth c s₁ B hml hno hv
  obtain ⟨rfl, hsz, hP, hK, hD0, hT, hE⟩ := hv
  have hx := B.exec
  have hb := B.bytes
  have hr := B.returns
  have hw := wz_hw (atoms_spec (ws := wz yX11_suggest cX11_suggest 6 (some .int)) B.pre)
  have hown : s.vm.findClass "KindredBooks" = some m.cls := findClass_of_methodNamed B.named
  have hlocks := B.notSynchronized
  have hn := hT.1.use (args := ([.ref ax, .int b, .int y0] : List Value).toArray)
  subst hsz
  have hD := hD0.self (sz := s.heap.size)
  generalize hAe : va_A [(ax, .inr (0, [.ref xt, .ref xp, .ref xs, .ref xl, .ref xb, .ref xk, .ref xm, .ref xq, .ref xg, .ref xf, .ref xe, .int 49]))] s.heap.size = A at hD hE ⊢
  have hA : ∀ q : Nat, s.heap.size ≤ q → A q := fun q h => by rw [← hAe]; exact Or.inr h
  have hS : va_S A s.heap s.heap [] := va_S.rf
  replace hP : va_P D zcl [(ax, .inr (0, [.ref xt, .ref xp, .ref xs, .ref xl, .ref xb, .ref xk, .ref xm, .ref xq, .ref xg, .ref xf, .ref xe, .int 49]))] s.heap := hP
  have hl := lv_entry ([.ref ax, .int b, .int y0]) (n := 6) (Nat.le_of_ble_eq_true rfl)
  rw [lg_entry_eq]
  generalize (lg_sl ([.ref ax, .int b, .int y0]) ++ List.replicate (6 - (lg_sl ([.ref ax, .int b, .int y0])).length) Slot.unset).toArray = ls at hl ⊢
  replace hl : lv_has ls 6 [(0, .ref ax), (1, .int b), (2, .int y0)] := hl
  refine lv_aload_n hx hb dX11_suggest_0 rfl (lv_at hl 0 rfl) ?_
  refine lv_iload_n hx hb dX11_suggest_1 rfl (lv_at hl 1 rfl) ?_
  have hPc := hP.sub (ws' := []) [] rfl
  have hDc := hD.sub (ws' := []) [] (by decide) rfl
  have hFc := va_free (wc := []) hD hS hA [] rfl
  refine zx_call (E0 := "java/lang/IndexOutOfBoundsException") (vx_runV (As := [.int b]) (rest := []) ⟨hx, hb, hml, hown, hw⟩ (c_kinOf_no l D dA dZ _ hfl ax b hz) (z_cwV 1 hw mw_863 mw_865 ms_17 mw_1 mw_866 rfl rfl (by decide +kernel) ⟨Nat.le_of_ble_eq_true rfl, Nat.le_of_ble_eq_true rfl⟩) (zPreV hPc hK hDc hT hE hS hFc (va_recv hK hP (ci := 0) (q0 := 0) rfl rfl)) rfl rfl hl.1 rfl (lv_room (Nat.le_of_ble_eq_true rfl)) dX11_suggest_2 ⟨Nat.le_of_ble_eq_true rfl, Nat.le_of_ble_eq_true rfl⟩) hS (fun q _ h => hFc q h) hFc (fun ce q9 H1 locs hz1 hk1 hS hce hcv hcl => ?_)
  exact vx_out (fun x hx => (hno x hx).elim) hlocks hce hcv hcl (fun t ht ha => zX_at hS ht) hS.2.2 (Nat.le_of_ble_eq_true rfl) (Nat.le_of_ble_eq_true rfl)
set_option maxHeartbeats 4000000 in
set_option maxRecDepth 100000 in
/-- search: no such book -/
theorem c_search_bad (l : Launch) (D : va_G) (dA : Nat → ClassId) (dZ : Nat → Nat) (sz : Nat) (hfl : l.stackTraces = false) (ax : Nat) (xt : Nat) (xp : Nat) (xs : Nat) (xl : Nat) (xb : Nat) (xk : Nat) (xm : Nat) (xq : Nat) (xg : Nat) (xf : Nat) (xe : Nat) (b : Int32) (y0 : Int32) (hz : zbad b) : vx_Met l yX11_search (wz yX11_search cX11_search 7 (some .int)) ({ frames := 9, cells := 1, slots := 6, locals := 200 } : Room) (va_Pc [.ref ax, .int b, .int y0] (zP D dA dZ [(ax, .inr (0, [.ref xt, .ref xp, .ref xs, .ref xl, .ref xb, .ref xk, .ref xm, .ref xq, .ref xg, .ref xf, .ref xe, .int 49]))] sz)) zNo (zX "java/lang/IndexOutOfBoundsException" (va_A [(ax, .inr (0, [.ref xt, .ref xp, .ref xs, .ref xl, .ref xb, .ref xk, .ref xm, .ref xq, .ref xg, .ref xf, .ref xe, .int 49]))] sz)) 1 6 (va_A [(ax, .inr (0, [.ref xt, .ref xp, .ref xs, .ref xl, .ref xb, .ref xk, .ref xm, .ref xq, .ref xg, .ref xf, .ref xe, .int 49]))] sz) := by
  refine vx_ofW (cc := cX11_search) (maxL := 7) (ret := (some .int)) (by decide) rfl ?_
  intro p e s m args below meth c s₁ B hml hno hv
  obtain ⟨rfl, hsz, hP, hK, hD0, hT, hE⟩ := hv
  have hx := B.exec
  have hb := B.bytes
  have hr := B.returns
  have hw := wz_hw (atoms_spec (ws := wz yX11_search cX11_search 7 (some .int)) B.pre)
  have hown : s.vm.findClass "KindredBooks" = some m.cls := findClass_of_methodNamed B.named
  have hlocks := B.notSynchronized
  have hn := hT.1.use (args := ([.ref ax, .int b, .int y0] : List Value).toArray)
  subst hsz
  have hD := hD0.self (sz := s.heap.size)
  generalize hAe : va_A [(ax, .inr (0, [.ref xt, .ref xp, .ref xs, .ref xl, .ref xb, .ref xk, .ref xm, .ref xq, .ref xg, .ref xf, .ref xe, .int 49]))] s.heap.size = A at hD hE ⊢
  have hA : ∀ q : Nat, s.heap.size ≤ q → A q := fun q h => by rw [← hAe]; exact Or.inr h
  have hS : va_S A s.heap s.heap [] := va_S.rf
  replace hP : va_P D zcl [(ax, .inr (0, [.ref xt, .ref xp, .ref xs, .ref xl, .ref xb, .ref xk, .ref xm, .ref xq, .ref xg, .ref xf, .ref xe, .int 49]))] s.heap := hP
  have hl := lv_entry ([.ref ax, .int b, .int y0]) (n := 7) (Nat.le_of_ble_eq_true rfl)
  rw [lg_entry_eq]
  generalize (lg_sl ([.ref ax, .int b, .int y0]) ++ List.replicate (7 - (lg_sl ([.ref ax, .int b, .int y0])).length) Slot.unset).toArray = ls at hl ⊢
  replace hl : lv_has ls 7 [(0, .ref ax), (1, .int b), (2, .int y0)] := hl
  refine lv_aload_n hx hb dX11_search_0 rfl (lv_at hl 0 rfl) ?_
  refine lv_iload_n hx hb dX11_search_1 rfl (lv_at hl 1 rfl) ?_
  have hPc := hP.sub (ws' := []) [] rfl
  have hDc := hD.sub (ws' := []) [] (by decide) rfl
  have hFc := va_free (wc := []) hD hS hA [] rfl
  refine zx_call (E0 := "java/lang/IndexOutOfBoundsException") (vx_runV (As := [.int b]) (rest := []) ⟨hx, hb, hml, hown, hw⟩ (c_kinOf_no l D dA dZ _ hfl ax b hz) (z_cwV 1 hw mw_863 mw_865 ms_17 mw_1 mw_866 rfl rfl (by decide +kernel) ⟨Nat.le_of_ble_eq_true rfl, Nat.le_of_ble_eq_true rfl⟩) (zPreV hPc hK hDc hT hE hS hFc (va_recv hK hP (ci := 0) (q0 := 0) rfl rfl)) rfl rfl hl.1 rfl (lv_room (Nat.le_of_ble_eq_true rfl)) dX11_search_2 ⟨Nat.le_of_ble_eq_true rfl, Nat.le_of_ble_eq_true rfl⟩) hS (fun q _ h => hFc q h) hFc (fun ce q9 H1 locs hz1 hk1 hS hce hcv hcl => ?_)
  exact vx_out (fun x hx => (hno x hx).elim) hlocks hce hcv hcl (fun t ht ha => zX_at hS ht) hS.2.2 (Nat.le_of_ble_eq_true rfl) (Nat.le_of_ble_eq_true rfl)
set_option maxHeartbeats 4000000 in
set_option maxRecDepth 100000 in
/-- members: no such book -/
theorem c_members_bad (l : Launch) (D : va_G) (dA : Nat → ClassId) (dZ : Nat → Nat) (sz : Nat) (hfl : l.stackTraces = false) (ax : Nat) (xt : Nat) (xp : Nat) (xs : Nat) (xl : Nat) (xb : Nat) (xk : Nat) (xm : Nat) (xq : Nat) (xg : Nat) (xf : Nat) (xe : Nat) (b : Int32) (y0 : Int32) (hz : zbad b) : vx_Met l yX11_members (wz yX11_members cX11_members 4 (some .int)) ({ frames := 9, cells := 1, slots := 6, locals := 200 } : Room) (va_Pc [.ref ax, .int b, .int y0] (zP D dA dZ [(ax, .inr (0, [.ref xt, .ref xp, .ref xs, .ref xl, .ref xb, .ref xk, .ref xm, .ref xq, .ref xg, .ref xf, .ref xe, .int 49]))] sz)) zNo (zX "java/lang/IndexOutOfBoundsException" (va_A [(ax, .inr (0, [.ref xt, .ref xp, .ref xs, .ref xl, .ref xb, .ref xk, .ref xm, .ref xq, .ref xg, .ref xf, .ref xe, .int 49]))] sz)) 1 6 (va_A [(ax, .inr (0, [.ref xt, .ref xp, .ref xs, .ref xl, .ref xb, .ref xk, .ref xm, .ref xq, .ref xg, .ref xf, .ref xe, .int 49]))] sz) := by
  refine vx_ofW (cc := cX11_members) (maxL := 4) (ret := (some .int)) (by decide) rfl ?_
  intro p e s m args below meth c s₁ B hml hno hv
  obtain ⟨rfl, hsz, hP, hK, hD0, hT, hE⟩ := hv
  have hx := B.exec
  have hb := B.bytes
  have hr := B.returns
  have hw := wz_hw (atoms_spec (ws := wz yX11_members cX11_members 4 (some .int)) B.pre)
  have hown : s.vm.findClass "KindredBooks" = some m.cls := findClass_of_methodNamed B.named
  have hlocks := B.notSynchronized
  have hn := hT.1.use (args := ([.ref ax, .int b, .int y0] : List Value).toArray)
  subst hsz
  have hD := hD0.self (sz := s.heap.size)
  generalize hAe : va_A [(ax, .inr (0, [.ref xt, .ref xp, .ref xs, .ref xl, .ref xb, .ref xk, .ref xm, .ref xq, .ref xg, .ref xf, .ref xe, .int 49]))] s.heap.size = A at hD hE ⊢
  have hA : ∀ q : Nat, s.heap.size ≤ q → A q := fun q h => by rw [← hAe]; exact Or.inr h
  have hS : va_S A s.heap s.heap [] := va_S.rf
  replace hP : va_P D zcl [(ax, .inr (0, [.ref xt, .ref xp, .ref xs, .ref xl, .ref xb, .ref xk, .ref xm, .ref xq, .ref xg, .ref xf, .ref xe, .int 49]))] s.heap := hP
  have hl := lv_entry ([.ref ax, .int b, .int y0]) (n := 4) (Nat.le_of_ble_eq_true rfl)
  rw [lg_entry_eq]
  generalize (lg_sl ([.ref ax, .int b, .int y0]) ++ List.replicate (4 - (lg_sl ([.ref ax, .int b, .int y0])).length) Slot.unset).toArray = ls at hl ⊢
  replace hl : lv_has ls 4 [(0, .ref ax), (1, .int b), (2, .int y0)] := hl
  refine lv_aload_n hx hb dX11_members_0 rfl (lv_at hl 0 rfl) ?_
  refine lv_iload_n hx hb dX11_members_1 rfl (lv_at hl 1 rfl) ?_
  have hPc := hP.sub (ws' := []) [] rfl
  have hDc := hD.sub (ws' := []) [] (by decide) rfl
  have hFc := va_free (wc := []) hD hS hA [] rfl
  refine zx_call (E0 := "java/lang/IndexOutOfBoundsException") (vx_runV (As := [.int b]) (rest := []) ⟨hx, hb, hml, hown, hw⟩ (c_kinOf_no l D dA dZ _ hfl ax b hz) (z_cwV 1 hw mw_863 mw_865 ms_17 mw_1 mw_866 rfl rfl (by decide +kernel) ⟨Nat.le_of_ble_eq_true rfl, Nat.le_of_ble_eq_true rfl⟩) (zPreV hPc hK hDc hT hE hS hFc (va_recv hK hP (ci := 0) (q0 := 0) rfl rfl)) rfl rfl hl.1 rfl (lv_room (Nat.le_of_ble_eq_true rfl)) dX11_members_2 ⟨Nat.le_of_ble_eq_true rfl, Nat.le_of_ble_eq_true rfl⟩) hS (fun q _ h => hFc q h) hFc (fun ce q9 H1 locs hz1 hk1 hS hce hcv hcl => ?_)
  exact vx_out (fun x hx => (hno x hx).elim) hlocks hce hcv hcl (fun t ht ha => zX_at hS ht) hS.2.2 (Nat.le_of_ble_eq_true rfl) (Nat.le_of_ble_eq_true rfl)
set_option maxHeartbeats 4000000 in
set_option maxRecDepth 100000 in
/-- memberAt: no such book -/
theorem c_memberAt_bad (l : Launch) (D : va_G) (dA : Nat → ClassId) (dZ : Nat → Nat) (sz : Nat) (hfl : l.stackTraces = false) (ax : Nat) (xt : Nat) (xp : Nat) (xs : Nat) (xl : Nat) (xb : Nat) (xk : Nat) (xm : Nat) (xq : Nat) (xg : Nat) (xf : Nat) (xe : Nat) (b : Int32) (y0 : Int32) (y1 : Int32) (hz : zbad b) : vx_Met l yX11_memberAt (wz yX11_memberAt cX11_memberAt 6 (some .int)) ({ frames := 9, cells := 1, slots := 6, locals := 200 } : Room) (va_Pc [.ref ax, .int b, .int y0, .int y1] (zP D dA dZ [(ax, .inr (0, [.ref xt, .ref xp, .ref xs, .ref xl, .ref xb, .ref xk, .ref xm, .ref xq, .ref xg, .ref xf, .ref xe, .int 49]))] sz)) zNo (zX "java/lang/IndexOutOfBoundsException" (va_A [(ax, .inr (0, [.ref xt, .ref xp, .ref xs, .ref xl, .ref xb, .ref xk, .ref xm, .ref xq, .ref xg, .ref xf, .ref xe, .int 49]))] sz)) 1 6 (va_A [(ax, .inr (0, [.ref xt, .ref xp, .ref xs, .ref xl, .ref xb, .ref xk, .ref xm, .ref xq, .ref xg, .ref xf, .ref xe, .int 49]))] sz) := by
  refine vx_ofW (cc := cX11_memberAt) (maxL := 6) (ret := (some .int)) (by decide) rfl ?_
  intro p e s m args below meth c s₁ B hml hno hv
  obtain ⟨rfl, hsz, hP, hK, hD0, hT, hE⟩ := hv
  have hx := B.exec
  have hb := B.bytes
  have hr := B.returns
  have hw := wz_hw (atoms_spec (ws := wz yX11_memberAt cX11_memberAt 6 (some .int)) B.pre)
  have hown : s.vm.findClass "KindredBooks" = some m.cls := findClass_of_methodNamed B.named
  have hlocks := B.notSynchronized
  have hn := hT.1.use (args := ([.ref ax, .int b, .int y0, .int y1] : List Value).toArray)
  subst hsz
  have hD := hD0.self (sz := s.heap.size)
  generalize hAe : va_A [(ax, .inr (0, [.ref xt, .ref xp, .ref xs, .ref xl, .ref xb, .ref xk, .ref xm, .ref xq, .ref xg, .ref xf, .ref xe, .int 49]))] s.heap.size = A at hD hE ⊢
  have hA : ∀ q : Nat, s.heap.size ≤ q → A q := fun q h => by rw [← hAe]; exact Or.inr h
  have hS : va_S A s.heap s.heap [] := va_S.rf
  replace hP : va_P D zcl [(ax, .inr (0, [.ref xt, .ref xp, .ref xs, .ref xl, .ref xb, .ref xk, .ref xm, .ref xq, .ref xg, .ref xf, .ref xe, .int 49]))] s.heap := hP
  have hl := lv_entry ([.ref ax, .int b, .int y0, .int y1]) (n := 6) (Nat.le_of_ble_eq_true rfl)
  rw [lg_entry_eq]
  generalize (lg_sl ([.ref ax, .int b, .int y0, .int y1]) ++ List.replicate (6 - (lg_sl ([.ref ax, .int b, .int y0, .int y1])).length) Slot.unset).toArray = ls at hl ⊢
  replace hl : lv_has ls 6 [(0, .ref ax), (1, .int b), (2, .int y0), (3, .int y1)] := hl
  refine lv_aload_n hx hb dX11_memberAt_0 rfl (lv_at hl 0 rfl) ?_
  refine lv_iload_n hx hb dX11_memberAt_1 rfl (lv_at hl 1 rfl) ?_
  have hPc := hP.sub (ws' := []) [] rfl
  have hDc := hD.sub (ws' := []) [] (by decide) rfl
  have hFc := va_free (wc := []) hD hS hA [] rfl
  refine zx_call (E0 := "java/lang/IndexOutOfBoundsException") (vx_runV (As := [.int b]) (rest := []) ⟨hx, hb, hml, hown, hw⟩ (c_kinOf_no l D dA dZ _ hfl ax b hz) (z_cwV 1 hw mw_863 mw_865 ms_17 mw_1 mw_866 rfl rfl (by decide +kernel) ⟨Nat.le_of_ble_eq_true rfl, Nat.le_of_ble_eq_true rfl⟩) (zPreV hPc hK hDc hT hE hS hFc (va_recv hK hP (ci := 0) (q0 := 0) rfl rfl)) rfl rfl hl.1 rfl (lv_room (Nat.le_of_ble_eq_true rfl)) dX11_memberAt_2 ⟨Nat.le_of_ble_eq_true rfl, Nat.le_of_ble_eq_true rfl⟩) hS (fun q _ h => hFc q h) hFc (fun ce q9 H1 locs hz1 hk1 hS hce hcv hcl => ?_)
  exact vx_out (fun x hx => (hno x hx).elim) hlocks hce hcv hcl (fun t ht ha => zX_at hS ht) hS.2.2 (Nat.le_of_ble_eq_true rfl) (Nat.le_of_ble_eq_true rfl)
set_option maxHeartbeats 4000000 in
set_option maxRecDepth 100000 in
/-- yearly: no such book -/
theorem c_yearly_bad (l : Launch) (D : va_G) (dA : Nat → ClassId) (dZ : Nat → Nat) (sz : Nat) (hfl : l.stackTraces = false) (ax : Nat) (xt : Nat) (xp : Nat) (xs : Nat) (xl : Nat) (xb : Nat) (xk : Nat) (xm : Nat) (xq : Nat) (xg : Nat) (xf : Nat) (xe : Nat) (b : Int32) (y0 : Int32) (y1 : Int32) (y2 : Int32) (y3 : Int32) (hz : zbad b) : vx_Met l yX11_yearly (wz yX11_yearly cX11_yearly 11 (some .int)) ({ frames := 9, cells := 1, slots := 6, locals := 200 } : Room) (va_Pc [.ref ax, .int b, .int y0, .int y1, .int y2, .int y3] (zP D dA dZ [(ax, .inr (0, [.ref xt, .ref xp, .ref xs, .ref xl, .ref xb, .ref xk, .ref xm, .ref xq, .ref xg, .ref xf, .ref xe, .int 49]))] sz)) zNo (zX "java/lang/IndexOutOfBoundsException" (va_A [(ax, .inr (0, [.ref xt, .ref xp, .ref xs, .ref xl, .ref xb, .ref xk, .ref xm, .ref xq, .ref xg, .ref xf, .ref xe, .int 49]))] sz)) 1 6 (va_A [(ax, .inr (0, [.ref xt, .ref xp, .ref xs, .ref xl, .ref xb, .ref xk, .ref xm, .ref xq, .ref xg, .ref xf, .ref xe, .int 49]))] sz) := by
  refine vx_ofW (cc := cX11_yearly) (maxL := 11) (ret := (some .int)) (by decide) rfl ?_
  intro p e s m args below meth c s₁ B hml hno hv
  obtain ⟨rfl, hsz, hP, hK, hD0, hT, hE⟩ := hv
  have hx := B.exec
  have hb := B.bytes
  have hr := B.returns
  have hw := wz_hw (atoms_spec (ws := wz yX11_yearly cX11_yearly 11 (some .int)) B.pre)
  have hown : s.vm.findClass "KindredBooks" = some m.cls := findClass_of_methodNamed B.named
  have hlocks := B.notSynchronized
  have hn := hT.1.use (args := ([.ref ax, .int b, .int y0, .int y1, .int y2, .int y3] : List Value).toArray)
  subst hsz
  have hD := hD0.self (sz := s.heap.size)
  generalize hAe : va_A [(ax, .inr (0, [.ref xt, .ref xp, .ref xs, .ref xl, .ref xb, .ref xk, .ref xm, .ref xq, .ref xg, .ref xf, .ref xe, .int 49]))] s.heap.size = A at hD hE ⊢
  have hA : ∀ q : Nat, s.heap.size ≤ q → A q := fun q h => by rw [← hAe]; exact Or.inr h
  have hS : va_S A s.heap s.heap [] := va_S.rf
  replace hP : va_P D zcl [(ax, .inr (0, [.ref xt, .ref xp, .ref xs, .ref xl, .ref xb, .ref xk, .ref xm, .ref xq, .ref xg, .ref xf, .ref xe, .int 49]))] s.heap := hP
  have hl := lv_entry ([.ref ax, .int b, .int y0, .int y1, .int y2, .int y3]) (n := 11) (Nat.le_of_ble_eq_true rfl)
  rw [lg_entry_eq]
  generalize (lg_sl ([.ref ax, .int b, .int y0, .int y1, .int y2, .int y3]) ++ List.replicate (11 - (lg_sl ([.ref ax, .int b, .int y0, .int y1, .int y2, .int y3])).length) Slot.unset).toArray = ls at hl ⊢
  replace hl : lv_has ls 11 [(0, .ref ax), (1, .int b), (2, .int y0), (3, .int y1), (4, .int y2), (5, .int y3)] := hl
  refine lv_aload_n hx hb dX11_yearly_0 rfl (lv_at hl 0 rfl) ?_
  refine lv_iload_n hx hb dX11_yearly_1 rfl (lv_at hl 1 rfl) ?_
  have hPc := hP.sub (ws' := []) [] rfl
  have hDc := hD.sub (ws' := []) [] (by decide) rfl
  have hFc := va_free (wc := []) hD hS hA [] rfl
  refine zx_call (E0 := "java/lang/IndexOutOfBoundsException") (vx_runV (As := [.int b]) (rest := []) ⟨hx, hb, hml, hown, hw⟩ (c_kinOf_no l D dA dZ _ hfl ax b hz) (z_cwV 1 hw mw_863 mw_865 ms_17 mw_1 mw_866 rfl rfl (by decide +kernel) ⟨Nat.le_of_ble_eq_true rfl, Nat.le_of_ble_eq_true rfl⟩) (zPreV hPc hK hDc hT hE hS hFc (va_recv hK hP (ci := 0) (q0 := 0) rfl rfl)) rfl rfl hl.1 rfl (lv_room (Nat.le_of_ble_eq_true rfl)) dX11_yearly_2 ⟨Nat.le_of_ble_eq_true rfl, Nat.le_of_ble_eq_true rfl⟩) hS (fun q _ h => hFc q h) hFc (fun ce q9 H1 locs hz1 hk1 hS hce hcv hcl => ?_)
  exact vx_out (fun x hx => (hno x hx).elim) hlocks hce hcv hcl (fun t ht ha => zX_at hS ht) hS.2.2 (Nat.le_of_ble_eq_true rfl) (Nat.le_of_ble_eq_true rfl)
set_option maxHeartbeats 4000000 in
set_option maxRecDepth 100000 in
/-- line: no such book -/
theorem c_line_bad (l : Launch) (D : va_G) (dA : Nat → ClassId) (dZ : Nat → Nat) (sz : Nat) (hfl : l.stackTraces = false) (ax : Nat) (xt : Nat) (xp : Nat) (xs : Nat) (xl : Nat) (xb : Nat) (xk : Nat) (xm : Nat) (xq : Nat) (xg : Nat) (xf : Nat) (xe : Nat) (b : Int32) (y0 : Int32) (y1 : Int32) (hz : zbad b) : vx_Met l yX11_line (wz yX11_line cX11_line 6 (some .int)) ({ frames := 9, cells := 1, slots := 6, locals := 200 } : Room) (va_Pc [.ref ax, .int b, .int y0, .int y1] (zP D dA dZ [(ax, .inr (0, [.ref xt, .ref xp, .ref xs, .ref xl, .ref xb, .ref xk, .ref xm, .ref xq, .ref xg, .ref xf, .ref xe, .int 49]))] sz)) zNo (zX "java/lang/IndexOutOfBoundsException" (va_A [(ax, .inr (0, [.ref xt, .ref xp, .ref xs, .ref xl, .ref xb, .ref xk, .ref xm, .ref xq, .ref xg, .ref xf, .ref xe, .int 49]))] sz)) 1 6 (va_A [(ax, .inr (0, [.ref xt, .ref xp, .ref xs, .ref xl, .ref xb, .ref xk, .ref xm, .ref xq, .ref xg, .ref xf, .ref xe, .int 49]))] sz) := by
  refine vx_ofW (cc := cX11_line) (maxL := 6) (ret := (some .int)) (by decide) rfl ?_
  intro p e s m args below meth c s₁ B hml hno hv
  obtain ⟨rfl, hsz, hP, hK, hD0, hT, hE⟩ := hv
  have hx := B.exec
  have hb := B.bytes
  have hr := B.returns
  have hw := wz_hw (atoms_spec (ws := wz yX11_line cX11_line 6 (some .int)) B.pre)
  have hown : s.vm.findClass "KindredBooks" = some m.cls := findClass_of_methodNamed B.named
  have hlocks := B.notSynchronized
  have hn := hT.1.use (args := ([.ref ax, .int b, .int y0, .int y1] : List Value).toArray)
  subst hsz
  have hD := hD0.self (sz := s.heap.size)
  generalize hAe : va_A [(ax, .inr (0, [.ref xt, .ref xp, .ref xs, .ref xl, .ref xb, .ref xk, .ref xm, .ref xq, .ref xg, .ref xf, .ref xe, .int 49]))] s.heap.size = A at hD hE ⊢
  have hA : ∀ q : Nat, s.heap.size ≤ q → A q := fun q h => by rw [← hAe]; exact Or.inr h
  have hS : va_S A s.heap s.heap [] := va_S.rf
  replace hP : va_P D zcl [(ax, .inr (0, [.ref xt, .ref xp, .ref xs, .ref xl, .ref xb, .ref xk, .ref xm, .ref xq, .ref xg, .ref xf, .ref xe, .int 49]))] s.heap := hP
  have hl := lv_entry ([.ref ax, .int b, .int y0, .int y1]) (n := 6) (Nat.le_of_ble_eq_true rfl)
  rw [lg_entry_eq]
  generalize (lg_sl ([.ref ax, .int b, .int y0, .int y1]) ++ List.replicate (6 - (lg_sl ([.ref ax, .int b, .int y0, .int y1])).length) Slot.unset).toArray = ls at hl ⊢
  replace hl : lv_has ls 6 [(0, .ref ax), (1, .int b), (2, .int y0), (3, .int y1)] := hl
  refine lv_aload_n hx hb dX11_line_0 rfl (lv_at hl 0 rfl) ?_
  refine lv_iload_n hx hb dX11_line_1 rfl (lv_at hl 1 rfl) ?_
  have hPc := hP.sub (ws' := []) [] rfl
  have hDc := hD.sub (ws' := []) [] (by decide) rfl
  have hFc := va_free (wc := []) hD hS hA [] rfl
  refine zx_call (E0 := "java/lang/IndexOutOfBoundsException") (vx_runV (As := [.int b]) (rest := []) ⟨hx, hb, hml, hown, hw⟩ (c_bookOf_no l D dA dZ _ hfl ax b hz) (z_cwV 1 hw mw_603 mw_605 ms_3 mw_1 mw_606 rfl rfl (by decide +kernel) ⟨Nat.le_of_ble_eq_true rfl, Nat.le_of_ble_eq_true rfl⟩) (zPreV hPc hK hDc hT hE hS hFc (va_recv hK hP (ci := 0) (q0 := 0) rfl rfl)) rfl rfl hl.1 rfl (lv_room (Nat.le_of_ble_eq_true rfl)) dX11_line_2 ⟨Nat.le_of_ble_eq_true rfl, Nat.le_of_ble_eq_true rfl⟩) hS (fun q _ h => hFc q h) hFc (fun ce q9 H1 locs hz1 hk1 hS hce hcv hcl => ?_)
  exact vx_out (fun x hx => (hno x hx).elim) hlocks hce hcv hcl (fun t ht ha => zX_at hS ht) hS.2.2 (Nat.le_of_ble_eq_true rfl) (Nat.le_of_ble_eq_true rfl)
set_option maxHeartbeats 4000000 in
set_option maxRecDepth 100000 in
/-- makeOfTwo: no such book -/
theorem c_makeOfTwo_bad (l : Launch) (D : va_G) (dA : Nat → ClassId) (dZ : Nat → Nat) (sz : Nat) (hfl : l.stackTraces = false) (ax : Nat) (xt : Nat) (xp : Nat) (xs : Nat) (xl : Nat) (xb : Nat) (xk : Nat) (xm : Nat) (xq : Nat) (xg : Nat) (xf : Nat) (xe : Nat) (b : Int32) (y0 : Int32) (y1 : Int32) (y2 : Int32) (hz : zbad b) : vx_Met l yX11_makeOfTwo (wz yX11_makeOfTwo cX11_makeOfTwo 6 (some .int)) ({ frames := 8, cells := 1, slots := 6, locals := 150 } : Room) (va_Pc [.ref ax, .int b, .int y0, .int y1, .int y2] (zP D dA dZ [(ax, .inr (0, [.ref xt, .ref xp, .ref xs, .ref xl, .ref xb, .ref xk, .ref xm, .ref xq, .ref xg, .ref xf, .ref xe, .int 49]))] sz)) zNo (zX "java/lang/IndexOutOfBoundsException" (va_A [(ax, .inr (0, [.ref xt, .ref xp, .ref xs, .ref xl, .ref xb, .ref xk, .ref xm, .ref xq, .ref xg, .ref xf, .ref xe, .int 49]))] sz)) 1 6 (va_A [(ax, .inr (0, [.ref xt, .ref xp, .ref xs, .ref xl, .ref xb, .ref xk, .ref xm, .ref xq, .ref xg, .ref xf, .ref xe, .int 49]))] sz) := by
  refine vx_ofW (cc := cX11_makeOfTwo) (maxL := 6) (ret := (some .int)) (by decide) rfl ?_
  intro p e s m args below meth c s₁ B hml hno hv
  obtain ⟨rfl, hsz, hP, hK, hD0, hT, hE⟩ := hv
  have hx := B.exec
  have hb := B.bytes
  have hr := B.returns
  have hw := wz_hw (atoms_spec (ws := wz yX11_makeOfTwo cX11_makeOfTwo 6 (some .int)) B.pre)
  have hown : s.vm.findClass "KindredBooks" = some m.cls := findClass_of_methodNamed B.named
  have hlocks := B.notSynchronized
  have hn := hT.1.use (args := ([.ref ax, .int b, .int y0, .int y1, .int y2] : List Value).toArray)
  subst hsz
  have hD := hD0.self (sz := s.heap.size)
  generalize hAe : va_A [(ax, .inr (0, [.ref xt, .ref xp, .ref xs, .ref xl, .ref xb, .ref xk, .ref xm, .ref xq, .ref xg, .ref xf, .ref xe, .int 49]))] s.heap.size = A at hD hE ⊢
  have hA : ∀ q : Nat, s.heap.size ≤ q → A q := fun q h => by rw [← hAe]; exact Or.inr h
  have hS : va_S A s.heap s.heap [] := va_S.rf
  replace hP : va_P D zcl [(ax, .inr (0, [.ref xt, .ref xp, .ref xs, .ref xl, .ref xb, .ref xk, .ref xm, .ref xq, .ref xg, .ref xf, .ref xe, .int 49]))] s.heap := hP
  have hl := lv_entry ([.ref ax, .int b, .int y0, .int y1, .int y2]) (n := 6) (Nat.le_of_ble_eq_true rfl)
  rw [lg_entry_eq]
  generalize (lg_sl ([.ref ax, .int b, .int y0, .int y1, .int y2]) ++ List.replicate (6 - (lg_sl ([.ref ax, .int b, .int y0, .int y1, .int y2])).length) Slot.unset).toArray = ls at hl ⊢
  replace hl : lv_has ls 6 [(0, .ref ax), (1, .int b), (2, .int y0), (3, .int y1), (4, .int y2)] := hl
  refine lv_aload_n hx hb dX11_makeOfTwo_0 rfl (lv_at hl 0 rfl) ?_
  refine lv_iload_n hx hb dX11_makeOfTwo_1 rfl (lv_at hl 1 rfl) ?_
  have hPc := hP.sub (ws' := []) [] rfl
  have hDc := hD.sub (ws' := []) [] (by decide) rfl
  have hFc := va_free (wc := []) hD hS hA [] rfl
  refine zx_call (E0 := "java/lang/IndexOutOfBoundsException") (vx_runV (As := [.int b]) (rest := []) ⟨hx, hb, hml, hown, hw⟩ (c_bookOf_no l D dA dZ _ hfl ax b hz) (z_cwV 1 hw mw_603 mw_605 ms_3 mw_1 mw_606 rfl rfl (by decide +kernel) ⟨Nat.le_of_ble_eq_true rfl, Nat.le_of_ble_eq_true rfl⟩) (zPreV hPc hK hDc hT hE hS hFc (va_recv hK hP (ci := 0) (q0 := 0) rfl rfl)) rfl rfl hl.1 rfl (lv_room (Nat.le_of_ble_eq_true rfl)) dX11_makeOfTwo_2 ⟨Nat.le_of_ble_eq_true rfl, Nat.le_of_ble_eq_true rfl⟩) hS (fun q _ h => hFc q h) hFc (fun ce q9 H1 locs hz1 hk1 hS hce hcv hcl => ?_)
  exact vx_out (fun x hx => (hno x hx).elim) hlocks hce hcv hcl (fun t ht ha => zX_at hS ht) hS.2.2 (Nat.le_of_ble_eq_true rfl) (Nat.le_of_ble_eq_true rfl)
set_option maxHeartbeats 4000000 in
set_option maxRecDepth 100000 in
/-- makeOfTwo: both are one -/
theorem c_makeOfTwo_same (l : Launch) (D : va_G) (dA : Nat → ClassId) (dZ : Nat → Nat) (sz : Nat) (hfl : l.stackTraces = false) (ax : Nat) (xt : Nat) (xp : Nat) (xs : Nat) (xl : Nat) (xb : Nat) (xk : Nat) (xm : Nat) (xq : Nat) (xg : Nat) (xf : Nat) (xe : Nat) (i : Nat) (fb : Nat → Option Nat) (bk : Nat) (b1 : Nat) (b2 : Nat) (b3 : Nat) (b4 : Nat) (hd : Int32) (y0 : Int32) (y1 : Int32) (hi : i < 3) (hf : fb i = some bk) : vx_Met l yX11_makeOfTwo (wz yX11_makeOfTwo cX11_makeOfTwo 6 (some .int)) ({ frames := 8, cells := 1, slots := 6, locals := 150 } : Room) (va_Pc [.ref ax, .int (nI i), .int y0, .int y1, .int y1] (zP D dA dZ [(ax, .inr (0, [.ref xt, .ref xp, .ref xs, .ref xl, .ref xb, .ref xk, .ref xm, .ref xq, .ref xg, .ref xf, .ref xe, .int 49])), (xb, .inl (dA 6, 3, .inr (.inr (.inr (.inr fb)))))] sz)) zNo (zX "java/lang/IllegalArgumentException" (va_A [(ax, .inr (0, [.ref xt, .ref xp, .ref xs, .ref xl, .ref xb, .ref xk, .ref xm, .ref xq, .ref xg, .ref xf, .ref xe, .int 49])), (xb, .inl (dA 6, 3, .inr (.inr (.inr (.inr fb)))))] sz)) 1 6 (va_A [(ax, .inr (0, [.ref xt, .ref xp, .ref xs, .ref xl, .ref xb, .ref xk, .ref xm, .ref xq, .ref xg, .ref xf, .ref xe, .int 49])), (xb, .inl (dA 6, 3, .inr (.inr (.inr (.inr fb)))))] sz) := by
  refine vx_ofW (cc := cX11_makeOfTwo) (maxL := 6) (ret := (some .int)) (by decide) rfl ?_
  intro p e s m args below meth c s₁ B hml hno hv
  obtain ⟨rfl, hsz, hP, hK, hD0, hT, hE⟩ := hv
  have hx := B.exec
  have hb := B.bytes
  have hr := B.returns
  have hw := wz_hw (atoms_spec (ws := wz yX11_makeOfTwo cX11_makeOfTwo 6 (some .int)) B.pre)
  have hown : s.vm.findClass "KindredBooks" = some m.cls := findClass_of_methodNamed B.named
  have hlocks := B.notSynchronized
  have hn := hT.1.use (args := ([.ref ax, .int (nI i), .int y0, .int y1, .int y1] : List Value).toArray)
  subst hsz
  have hD := hD0.self (sz := s.heap.size)
  generalize hAe : va_A [(ax, .inr (0, [.ref xt, .ref xp, .ref xs, .ref xl, .ref xb, .ref xk, .ref xm, .ref xq, .ref xg, .ref xf, .ref xe, .int 49])), (xb, .inl (dA 6, 3, .inr (.inr (.inr (.inr fb)))))] s.heap.size = A at hD hE ⊢
  have hA : ∀ q : Nat, s.heap.size ≤ q → A q := fun q h => by rw [← hAe]; exact Or.inr h
  have hS : va_S A s.heap s.heap [] := va_S.rf
  replace hP : va_P D zcl [(ax, .inr (0, [.ref xt, .ref xp, .ref xs, .ref xl, .ref xb, .ref xk, .ref xm, .ref xq, .ref xg, .ref xf, .ref xe, .int 49])), (xb, .inl (dA 6, 3, .inr (.inr (.inr (.inr fb)))))] s.heap := hP
  have hl := lv_entry ([.ref ax, .int (nI i), .int y0, .int y1, .int y1]) (n := 6) (Nat.le_of_ble_eq_true rfl)
  rw [lg_entry_eq]
  generalize (lg_sl ([.ref ax, .int (nI i), .int y0, .int y1, .int y1]) ++ List.replicate (6 - (lg_sl ([.ref ax, .int (nI i), .int y0, .int y1, .int y1])).length) Slot.unset).toArray = ls at hl ⊢
  replace hl : lv_has ls 6 [(0, .ref ax), (1, .int (nI i)), (2, .int y0), (3, .int y1), (4, .int y1)] := hl
  refine lv_aload_n hx hb dX11_makeOfTwo_0 rfl (lv_at hl 0 rfl) ?_
  refine lv_iload_n hx hb dX11_makeOfTwo_1 rfl (lv_at hl 1 rfl) ?_
  have hPc := hP.sub (ws' := [(ax, .inr (0, [.ref xt, .ref xp, .ref xs, .ref xl, .ref xb, .ref xk, .ref xm, .ref xq, .ref xg, .ref xf, .ref xe, .int 49])), (xb, .inl (dA 6, 3, .inr (.inr (.inr (.inr fb)))))]) [0, 1] rfl
  have hDc := hD.sub (ws' := [(ax, .inr (0, [.ref xt, .ref xp, .ref xs, .ref xl, .ref xb, .ref xk, .ref xm, .ref xq, .ref xg, .ref xf, .ref xe, .int 49])), (xb, .inl (dA 6, 3, .inr (.inr (.inr (.inr fb)))))]) [0, 1] (by decide) rfl
  have hFc := va_free (wc := [(ax, .inr (0, [.ref xt, .ref xp, .ref xs, .ref xl, .ref xb, .ref xk, .ref xm, .ref xq, .ref xg, .ref xf, .ref xe, .int 49])), (xb, .inl (dA 6, 3, .inr (.inr (.inr (.inr fb)))))]) hD hS hA [0, 1] rfl
  refine va_callq (va_runV (As := [.int (nI i)]) (rest := []) ⟨hx, hb, hml, hown, hw⟩ (c_bookOf l D dA dZ _ ax xt xp xs xl xb xk xm xq xg xf xe i fb bk hi hf) (z_cwV 1 hw mw_603 mw_605 ms_3 mw_1 mw_606 rfl rfl (by decide +kernel) ⟨Nat.le_of_ble_eq_true rfl, Nat.le_of_ble_eq_true rfl⟩) (zPreV hPc hK hDc hT hE hS hFc (va_recv hK hP (ci := 0) (q0 := 0) rfl rfl)) rfl rfl hl.1 rfl (lv_room (Nat.le_of_ble_eq_true rfl)) dX11_makeOfTwo_2 ⟨Nat.le_of_ble_eq_true rfl, Nat.le_of_ble_eq_true rfl⟩) hS (fun q _ h => hFc q h) hFc (fun r_1 u t H1 locs ht hvm hpo hB hz1 hk1 hS => ?_)
  obtain ⟨hP1, hD1⟩ := hB
  rw [ht] at hP1
  obtain ⟨hP, hD⟩ := va_join (wr := []) (w1 := [(ax, .inr (0, [.ref xt, .ref xp, .ref xs, .ref xl, .ref xb, .ref xk, .ref xm, .ref xq, .ref xg, .ref xf, .ref xe, .int 49])), (xb, .inl (dA 6, 3, .inr (.inr (.inr (.inr fb)))))]) hP hD [0, 1] [] rfl rfl (by decide) (by decide) hk1 hFc hP1 hD1
  generalize H1 = H at hP hS ⊢
  have hP : va_P D zcl [(ax, .inr (0, [.ref xt, .ref xp, .ref xs, .ref xl, .ref xb, .ref xk, .ref xm, .ref xq, .ref xg, .ref xf, .ref xe, .int 49])), (xb, .inl (dA 6, 3, .inr (.inr (.inr (.inr fb)))))] H := hP
  have hD : va_D A [(ax, .inr (0, [.ref xt, .ref xp, .ref xs, .ref xl, .ref xb, .ref xk, .ref xm, .ref xq, .ref xg, .ref xf, .ref xe, .int 49])), (xb, .inl (dA 6, 3, .inr (.inr (.inr (.inr fb)))))] := hD
  obtain rfl : r_1 = (some bk) := hpo
  refine lv_astore (lv' := [(5, .ref bk), (0, .ref ax), (1, .int (nI i)), (2, .int y0), (3, .int y1), (4, .int y1)]) hx hb dX11_makeOfTwo_5 hl (by decide) rfl (fun ls hl => ?_)
  refine lv_iload_n hx hb dX11_makeOfTwo_7 rfl (lv_at hl 4 rfl) ?_
  refine lv_iload hx hb dX11_makeOfTwo_8 (lv_at hl 5 rfl) ?_
  refine lv_icmp_ne (tgt := 24) hx hb dX11_makeOfTwo_10 (by decide) (fun zc => absurd rfl zc) (fun _ => ?_)
  obtain ⟨sa, hsa⟩ := hT.2.1 ("KindredBooks", 416, "both entries are the same one") (by decide)
  exact vx_throwSW (own := "KindredBooks") (cls := "java/lang/IllegalArgumentException") (names := ["java/lang/RuntimeException", "java/lang/Exception"]) (XC := zX "java/lang/IllegalArgumentException" A) hx hb hfl hown (by decide) (by decide) (hw _ mw_540) (hw _ mw_33) hsa (z_at hw hT.1 xat_KindredBooks_102_IllegalArgumentException) xgd_KindredBooks_102_98 hE.2.2.2.2.2.1 hE.2.2.2.2.2.2 hS (hl.1.trans hml.symm) dX11_makeOfTwo_13 dX11_makeOfTwo_16 dX11_makeOfTwo_17 dX11_makeOfTwo_20 dX11_makeOfTwo_23 (fun x hx => (hno x hx).elim) (Nat.le_of_ble_eq_true rfl) (Nat.le_of_ble_eq_true rfl) (Nat.le_of_ble_eq_true rfl) (Nat.le_of_ble_eq_true rfl) hlocks (fun t _ h1 h2 => zX_of hS h1 h2) hS.2.2 (Nat.le_of_ble_eq_true rfl) (Nat.le_of_ble_eq_true rfl)
set_option maxHeartbeats 4000000 in
set_option maxRecDepth 100000 in
/-- makeOfTwo: none lives -/
theorem c_makeOfTwo_dead (l : Launch) (D : va_G) (dA : Nat → ClassId) (dZ : Nat → Nat) (sz : Nat) (hfl : l.stackTraces = false) (ax : Nat) (xt : Nat) (xp : Nat) (xs : Nat) (xl : Nat) (xb : Nat) (xk : Nat) (xm : Nat) (xq : Nat) (xg : Nat) (xf : Nat) (xe : Nat) (i : Nat) (fb : Nat → Option Nat) (bk : Nat) (b1 : Nat) (b2 : Nat) (b3 : Nat) (b4 : Nat) (hd : Int32) (bl : Nat) (no : Nat) (ro : Nat) (y0 : Int32) (y1 : Int32) (y2 : Int32) (hi : i < 3) (hf : fb i = some bk) (hne : ¬ y1 = y2) : vx_Met l yX11_makeOfTwo (wz yX11_makeOfTwo cX11_makeOfTwo 6 (some .int)) ({ frames := 9, cells := 1, slots := 6, locals := 250 } : Room) (va_Pc [.ref ax, .int (nI i), .int y0, .int y1, .int y2] (zP D dA dZ [(ax, .inr (0, [.ref xt, .ref xp, .ref xs, .ref xl, .ref xb, .ref xk, .ref xm, .ref xq, .ref xg, .ref xf, .ref xe, .int 49])), (xb, .inl (dA 6, 3, .inr (.inr (.inr (.inr fb))))), (bk, .inr (5, [.int hd, .ref xl, .ref b1, .ref b2, .ref b3, .ref b4, .int 0, .int 0, .int 0])), (b3, .inl (dA 1, 250, .inl (fun _ => 0))), (xl, .inr (2, [.ref bl, .ref no, .ref ro, .int 0]))] sz)) zNo (zX "java/util/NoSuchElementException" (va_A [(ax, .inr (0, [.ref xt, .ref xp, .ref xs, .ref xl, .ref xb, .ref xk, .ref xm, .ref xq, .ref xg, .ref xf, .ref xe, .int 49])), (xb, .inl (dA 6, 3, .inr (.inr (.inr (.inr fb))))), (bk, .inr (5, [.int hd, .ref xl, .ref b1, .ref b2, .ref b3, .ref b4, .int 0, .int 0, .int 0])), (b3, .inl (dA 1, 250, .inl (fun _ => 0))), (xl, .inr (2, [.ref bl, .ref no, .ref ro, .int 0]))] sz)) 1 6 (va_A [(ax, .inr (0, [.ref xt, .ref xp, .ref xs, .ref xl, .ref xb, .ref xk, .ref xm, .ref xq, .ref xg, .ref xf, .ref xe, .int 49])), (xb, .inl (dA 6, 3, .inr (.inr (.inr (.inr fb))))), (bk, .inr (5, [.int hd, .ref xl, .ref b1, .ref b2, .ref b3, .ref b4, .int 0, .int 0, .int 0])), (b3, .inl (dA 1, 250, .inl (fun _ => 0))), (xl, .inr (2, [.ref bl, .ref no, .ref ro, .int 0]))] sz) := by
  refine vx_ofW (cc := cX11_makeOfTwo) (maxL := 6) (ret := (some .int)) (by decide) rfl ?_
  intro p e s m args below meth c s₁ B hml hno hv
  obtain ⟨rfl, hsz, hP, hK, hD0, hT, hE⟩ := hv
  have hx := B.exec
  have hb := B.bytes
  have hr := B.returns
  have hw := wz_hw (atoms_spec (ws := wz yX11_makeOfTwo cX11_makeOfTwo 6 (some .int)) B.pre)
  have hown : s.vm.findClass "KindredBooks" = some m.cls := findClass_of_methodNamed B.named
  have hlocks := B.notSynchronized
  have hn := hT.1.use (args := ([.ref ax, .int (nI i), .int y0, .int y1, .int y2] : List Value).toArray)
  subst hsz
  have hD := hD0.self (sz := s.heap.size)
  generalize hAe : va_A [(ax, .inr (0, [.ref xt, .ref xp, .ref xs, .ref xl, .ref xb, .ref xk, .ref xm, .ref xq, .ref xg, .ref xf, .ref xe, .int 49])), (xb, .inl (dA 6, 3, .inr (.inr (.inr (.inr fb))))), (bk, .inr (5, [.int hd, .ref xl, .ref b1, .ref b2, .ref b3, .ref b4, .int 0, .int 0, .int 0])), (b3, .inl (dA 1, 250, .inl (fun _ => 0))), (xl, .inr (2, [.ref bl, .ref no, .ref ro, .int 0]))] s.heap.size = A at hD hE ⊢
  have hA : ∀ q : Nat, s.heap.size ≤ q → A q := fun q h => by rw [← hAe]; exact Or.inr h
  have hS : va_S A s.heap s.heap [] := va_S.rf
  replace hP : va_P D zcl [(ax, .inr (0, [.ref xt, .ref xp, .ref xs, .ref xl, .ref xb, .ref xk, .ref xm, .ref xq, .ref xg, .ref xf, .ref xe, .int 49])), (xb, .inl (dA 6, 3, .inr (.inr (.inr (.inr fb))))), (bk, .inr (5, [.int hd, .ref xl, .ref b1, .ref b2, .ref b3, .ref b4, .int 0, .int 0, .int 0])), (b3, .inl (dA 1, 250, .inl (fun _ => 0))), (xl, .inr (2, [.ref bl, .ref no, .ref ro, .int 0]))] s.heap := hP
  have hl := lv_entry ([.ref ax, .int (nI i), .int y0, .int y1, .int y2]) (n := 6) (Nat.le_of_ble_eq_true rfl)
  rw [lg_entry_eq]
  generalize (lg_sl ([.ref ax, .int (nI i), .int y0, .int y1, .int y2]) ++ List.replicate (6 - (lg_sl ([.ref ax, .int (nI i), .int y0, .int y1, .int y2])).length) Slot.unset).toArray = ls at hl ⊢
  replace hl : lv_has ls 6 [(0, .ref ax), (1, .int (nI i)), (2, .int y0), (3, .int y1), (4, .int y2)] := hl
  refine lv_aload_n hx hb dX11_makeOfTwo_0 rfl (lv_at hl 0 rfl) ?_
  refine lv_iload_n hx hb dX11_makeOfTwo_1 rfl (lv_at hl 1 rfl) ?_
  have hPc := hP.sub (ws' := [(ax, .inr (0, [.ref xt, .ref xp, .ref xs, .ref xl, .ref xb, .ref xk, .ref xm, .ref xq, .ref xg, .ref xf, .ref xe, .int 49])), (xb, .inl (dA 6, 3, .inr (.inr (.inr (.inr fb)))))]) [0, 1] rfl
  have hDc := hD.sub (ws' := [(ax, .inr (0, [.ref xt, .ref xp, .ref xs, .ref xl, .ref xb, .ref xk, .ref xm, .ref xq, .ref xg, .ref xf, .ref xe, .int 49])), (xb, .inl (dA 6, 3, .inr (.inr (.inr (.inr fb)))))]) [0, 1] (by decide) rfl
  have hFc := va_free (wc := [(ax, .inr (0, [.ref xt, .ref xp, .ref xs, .ref xl, .ref xb, .ref xk, .ref xm, .ref xq, .ref xg, .ref xf, .ref xe, .int 49])), (xb, .inl (dA 6, 3, .inr (.inr (.inr (.inr fb)))))]) hD hS hA [0, 1] rfl
  refine va_callq (va_runV (As := [.int (nI i)]) (rest := []) ⟨hx, hb, hml, hown, hw⟩ (c_bookOf l D dA dZ _ ax xt xp xs xl xb xk xm xq xg xf xe i fb bk hi hf) (z_cwV 1 hw mw_603 mw_605 ms_3 mw_1 mw_606 rfl rfl (by decide +kernel) ⟨Nat.le_of_ble_eq_true rfl, Nat.le_of_ble_eq_true rfl⟩) (zPreV hPc hK hDc hT hE hS hFc (va_recv hK hP (ci := 0) (q0 := 0) rfl rfl)) rfl rfl hl.1 rfl (lv_room (Nat.le_of_ble_eq_true rfl)) dX11_makeOfTwo_2 ⟨Nat.le_of_ble_eq_true rfl, Nat.le_of_ble_eq_true rfl⟩) hS (fun q _ h => hFc q h) hFc (fun r_1 u t H1 locs ht hvm hpo hB hz1 hk1 hS => ?_)
  obtain ⟨hP1, hD1⟩ := hB
  rw [ht] at hP1
  obtain ⟨hP, hD⟩ := va_join (wr := [(bk, .inr (5, [.int hd, .ref xl, .ref b1, .ref b2, .ref b3, .ref b4, .int 0, .int 0, .int 0])), (b3, .inl (dA 1, 250, .inl (fun _ => 0))), (xl, .inr (2, [.ref bl, .ref no, .ref ro, .int 0]))]) (w1 := [(ax, .inr (0, [.ref xt, .ref xp, .ref xs, .ref xl, .ref xb, .ref xk, .ref xm, .ref xq, .ref xg, .ref xf, .ref xe, .int 49])), (xb, .inl (dA 6, 3, .inr (.inr (.inr (.inr fb)))))]) hP hD [0, 1] [2, 3, 4] rfl rfl (by decide) (by decide) hk1 hFc hP1 hD1
  generalize H1 = H at hP hS ⊢
  have hP : va_P D zcl [(bk, .inr (5, [.int hd, .ref xl, .ref b1, .ref b2, .ref b3, .ref b4, .int 0, .int 0, .int 0])), (b3, .inl (dA 1, 250, .inl (fun _ => 0))), (xl, .inr (2, [.ref bl, .ref no, .ref ro, .int 0])), (ax, .inr (0, [.ref xt, .ref xp, .ref xs, .ref xl, .ref xb, .ref xk, .ref xm, .ref xq, .ref xg, .ref xf, .ref xe, .int 49])), (xb, .inl (dA 6, 3, .inr (.inr (.inr (.inr fb)))))] H := hP
  have hD : va_D A [(bk, .inr (5, [.int hd, .ref xl, .ref b1, .ref b2, .ref b3, .ref b4, .int 0, .int 0, .int 0])), (b3, .inl (dA 1, 250, .inl (fun _ => 0))), (xl, .inr (2, [.ref bl, .ref no, .ref ro, .int 0])), (ax, .inr (0, [.ref xt, .ref xp, .ref xs, .ref xl, .ref xb, .ref xk, .ref xm, .ref xq, .ref xg, .ref xf, .ref xe, .int 49])), (xb, .inl (dA 6, 3, .inr (.inr (.inr (.inr fb)))))] := hD
  obtain rfl : r_1 = (some bk) := hpo
  refine lv_astore (lv' := [(5, .ref bk), (0, .ref ax), (1, .int (nI i)), (2, .int y0), (3, .int y1), (4, .int y2)]) hx hb dX11_makeOfTwo_5 hl (by decide) rfl (fun ls hl => ?_)
  refine lv_iload_n hx hb dX11_makeOfTwo_7 rfl (lv_at hl 4 rfl) ?_
  refine lv_iload hx hb dX11_makeOfTwo_8 (lv_at hl 5 rfl) ?_
  refine lv_icmp_ne (tgt := 24) hx hb dX11_makeOfTwo_10 (by decide) (fun _ => ?_) (fun zc => absurd zc hne)
  refine lv_aload_n hx hb dX11_makeOfTwo_24 rfl (lv_at hl 1 rfl) ?_
  refine lv_aload hx hb dX11_makeOfTwo_25 (lv_at hl 0 rfl) ?_
  refine lv_iload_n hx hb dX11_makeOfTwo_27 rfl (lv_at hl 4 rfl) ?_
  have hPc := hP.sub (ws' := [(bk, .inr (5, [.int hd, .ref xl, .ref b1, .ref b2, .ref b3, .ref b4, .int 0, .int 0, .int 0])), (b3, .inl (dA 1, 250, .inl (fun _ => 0)))]) [0, 1] rfl
  have hDc := hD.sub (ws' := [(bk, .inr (5, [.int hd, .ref xl, .ref b1, .ref b2, .ref b3, .ref b4, .int 0, .int 0, .int 0])), (b3, .inl (dA 1, 250, .inl (fun _ => 0)))]) [0, 1] (by decide) rfl
  have hFc := va_free (wc := [(bk, .inr (5, [.int hd, .ref xl, .ref b1, .ref b2, .ref b3, .ref b4, .int 0, .int 0, .int 0])), (b3, .inl (dA 1, 250, .inl (fun _ => 0)))]) hD hS hA [0, 1] rfl
  refine zx_call (E0 := "java/util/NoSuchElementException") (vx_runV (As := [.ref bk, .int y1]) (rest := []) ⟨hx, hb, hml, hown, hw⟩ (c_checkLive_no l D dA dZ _ hfl ax bk xl b1 b2 b3 b4 hd 0 y1) (z_cwV 2 hw mw_695 mw_697 ms_12 mw_1 mw_698 rfl rfl (by decide +kernel) ⟨Nat.le_of_ble_eq_true rfl, Nat.le_of_ble_eq_true rfl⟩) (zPreV hPc hK hDc hT hE hS hFc (va_recv hK hP (ci := 0) (q0 := 3) rfl rfl)) rfl rfl hl.1 rfl (lv_room (Nat.le_of_ble_eq_true rfl)) dX11_makeOfTwo_28 ⟨Nat.le_of_ble_eq_true rfl, Nat.le_of_ble_eq_true rfl⟩) hS (fun q _ h => hFc q h) hFc (fun ce q9 H1 locs hz1 hk1 hS hce hcv hcl => ?_)
  exact vx_out (fun x hx => (hno x hx).elim) hlocks hce hcv hcl (fun t ht ha => zX_at hS ht) hS.2.2 (Nat.le_of_ble_eq_true rfl) (Nat.le_of_ble_eq_true rfl)
set_option maxHeartbeats 4000000 in
set_option maxRecDepth 100000 in
/-- join: no such book -/
theorem c_join_bad (l : Launch) (D : va_G) (dA : Nat → ClassId) (dZ : Nat → Nat) (sz : Nat) (hfl : l.stackTraces = false) (ax : Nat) (xt : Nat) (xp : Nat) (xs : Nat) (xl : Nat) (xb : Nat) (xk : Nat) (xm : Nat) (xq : Nat) (xg : Nat) (xf : Nat) (xe : Nat) (b : Int32) (y0 : Int32) (y1 : Int32) (hz : zbad b) : vx_Met l yX11_join (wz yX11_join cX11_join 4 (some .int)) ({ frames := 9, cells := 1, slots := 6, locals := 200 } : Room) (va_Pc [.ref ax, .int b, .int y0, .int y1] (zP D dA dZ [(ax, .inr (0, [.ref xt, .ref xp, .ref xs, .ref xl, .ref xb, .ref xk, .ref xm, .ref xq, .ref xg, .ref xf, .ref xe, .int 49]))] sz)) zNo (zX "java/lang/IndexOutOfBoundsException" (va_A [(ax, .inr (0, [.ref xt, .ref xp, .ref xs, .ref xl, .ref xb, .ref xk, .ref xm, .ref xq, .ref xg, .ref xf, .ref xe, .int 49]))] sz)) 1 6 (va_A [(ax, .inr (0, [.ref xt, .ref xp, .ref xs, .ref xl, .ref xb, .ref xk, .ref xm, .ref xq, .ref xg, .ref xf, .ref xe, .int 49]))] sz) := by
  refine vx_ofW (cc := cX11_join) (maxL := 4) (ret := (some .int)) (by decide) rfl ?_
  intro p e s m args below meth c s₁ B hml hno hv
  obtain ⟨rfl, hsz, hP, hK, hD0, hT, hE⟩ := hv
  have hx := B.exec
  have hb := B.bytes
  have hr := B.returns
  have hw := wz_hw (atoms_spec (ws := wz yX11_join cX11_join 4 (some .int)) B.pre)
  have hown : s.vm.findClass "KindredBooks" = some m.cls := findClass_of_methodNamed B.named
  have hlocks := B.notSynchronized
  have hn := hT.1.use (args := ([.ref ax, .int b, .int y0, .int y1] : List Value).toArray)
  subst hsz
  have hD := hD0.self (sz := s.heap.size)
  generalize hAe : va_A [(ax, .inr (0, [.ref xt, .ref xp, .ref xs, .ref xl, .ref xb, .ref xk, .ref xm, .ref xq, .ref xg, .ref xf, .ref xe, .int 49]))] s.heap.size = A at hD hE ⊢
  have hA : ∀ q : Nat, s.heap.size ≤ q → A q := fun q h => by rw [← hAe]; exact Or.inr h
  have hS : va_S A s.heap s.heap [] := va_S.rf
  replace hP : va_P D zcl [(ax, .inr (0, [.ref xt, .ref xp, .ref xs, .ref xl, .ref xb, .ref xk, .ref xm, .ref xq, .ref xg, .ref xf, .ref xe, .int 49]))] s.heap := hP
  have hl := lv_entry ([.ref ax, .int b, .int y0, .int y1]) (n := 4) (Nat.le_of_ble_eq_true rfl)
  rw [lg_entry_eq]
  generalize (lg_sl ([.ref ax, .int b, .int y0, .int y1]) ++ List.replicate (4 - (lg_sl ([.ref ax, .int b, .int y0, .int y1])).length) Slot.unset).toArray = ls at hl ⊢
  replace hl : lv_has ls 4 [(0, .ref ax), (1, .int b), (2, .int y0), (3, .int y1)] := hl
  refine lv_aload_n hx hb dX11_join_0 rfl (lv_at hl 0 rfl) ?_
  refine lv_iload_n hx hb dX11_join_1 rfl (lv_at hl 1 rfl) ?_
  refine lv_iconst (v := 2) hx hb dX11_join_2 (by decide) ?_
  refine lv_iload_n hx hb dX11_join_3 rfl (lv_at hl 2 rfl) ?_
  refine lv_iload_n hx hb dX11_join_4 rfl (lv_at hl 3 rfl) ?_
  have hPc := hP.sub (ws' := [(ax, .inr (0, [.ref xt, .ref xp, .ref xs, .ref xl, .ref xb, .ref xk, .ref xm, .ref xq, .ref xg, .ref xf, .ref xe, .int 49]))]) [0] rfl
  have hDc := hD.sub (ws' := [(ax, .inr (0, [.ref xt, .ref xp, .ref xs, .ref xl, .ref xb, .ref xk, .ref xm, .ref xq, .ref xg, .ref xf, .ref xe, .int 49]))]) [0] (by decide) rfl
  have hFc := va_free (wc := [(ax, .inr (0, [.ref xt, .ref xp, .ref xs, .ref xl, .ref xb, .ref xk, .ref xm, .ref xq, .ref xg, .ref xf, .ref xe, .int 49]))]) hD hS hA [0] rfl
  refine zx_call (E0 := "java/lang/IndexOutOfBoundsException") (vx_runV (As := [.int b, .int 2, .int y0, .int y1]) (rest := []) ⟨hx, hb, hml, hown, hw⟩ (c_makeOfTwo_bad l D dA dZ _ hfl ax xt xp xs xl xb xk xm xq xg xf xe b 2 y0 y1 hz) (z_cwV 4 hw mw_756 mw_758 ms_15 mw_1 mw_759 rfl rfl (by decide +kernel) ⟨Nat.le_of_ble_eq_true rfl, Nat.le_of_ble_eq_true rfl⟩) (zPreV hPc hK hDc hT hE hS hFc (va_recv hK hP (ci := 0) (q0 := 0) rfl rfl)) rfl rfl hl.1 rfl (lv_room (Nat.le_of_ble_eq_true rfl)) dX11_join_5 ⟨Nat.le_of_ble_eq_true rfl, Nat.le_of_ble_eq_true rfl⟩) hS (fun q _ h => hFc q h) hFc (fun ce q9 H1 locs hz1 hk1 hS hce hcv hcl => ?_)
  exact vx_out (fun x hx => (hno x hx).elim) hlocks hce hcv hcl (fun t ht ha => zX_at hS ht) hS.2.2 (Nat.le_of_ble_eq_true rfl) (Nat.le_of_ble_eq_true rfl)
set_option maxHeartbeats 4000000 in
set_option maxRecDepth 100000 in
/-- join on a fresh object: same -/
theorem c_join_same (l : Launch) (D : va_G) (dA : Nat → ClassId) (dZ : Nat → Nat) (sz : Nat) (hfl : l.stackTraces = false) (ax : Nat) (xt : Nat) (xp : Nat) (xs : Nat) (xl : Nat) (xb : Nat) (xk : Nat) (xm : Nat) (xq : Nat) (xg : Nat) (xf : Nat) (xe : Nat) (i : Nat) (fb : Nat → Option Nat) (bk : Nat) (b1 : Nat) (b2 : Nat) (b3 : Nat) (b4 : Nat) (hd : Int32) (y0 : Int32) (hi : i < 3) (hf : fb i = some bk) : vx_Met l yX11_join (wz yX11_join cX11_join 4 (some .int)) ({ frames := 14, cells := 1, slots := 6, locals := 400 } : Room) (va_Pc [.ref ax, .int (nI i), .int y0, .int y0] (zP D dA dZ [(ax, .inr (0, [.ref xt, .ref xp, .ref xs, .ref xl, .ref xb, .ref xk, .ref xm, .ref xq, .ref xg, .ref xf, .ref xe, .int 49])), (xb, .inl (dA 6, 3, .inr (.inr (.inr (.inr fb)))))] sz)) zNo (zX "java/lang/IllegalArgumentException" (va_A [(ax, .inr (0, [.ref xt, .ref xp, .ref xs, .ref xl, .ref xb, .ref xk, .ref xm, .ref xq, .ref xg, .ref xf, .ref xe, .int 49])), (xb, .inl (dA 6, 3, .inr (.inr (.inr (.inr fb)))))] sz)) 1 6 (va_A [(ax, .inr (0, [.ref xt, .ref xp, .ref xs, .ref xl, .ref xb, .ref xk, .ref xm, .ref xq, .ref xg, .ref xf, .ref xe, .int 49])), (xb, .inl (dA 6, 3, .inr (.inr (.inr (.inr fb)))))] sz) := by
  refine vx_ofW (cc := cX11_join) (maxL := 4) (ret := (some .int)) (by decide) rfl ?_
  intro p e s m args below meth c s₁ B hml hno hv
  obtain ⟨rfl, hsz, hP, hK, hD0, hT, hE⟩ := hv
  have hx := B.exec
  have hb := B.bytes
  have hr := B.returns
  have hw := wz_hw (atoms_spec (ws := wz yX11_join cX11_join 4 (some .int)) B.pre)
  have hown : s.vm.findClass "KindredBooks" = some m.cls := findClass_of_methodNamed B.named
  have hlocks := B.notSynchronized
  have hn := hT.1.use (args := ([.ref ax, .int (nI i), .int y0, .int y0] : List Value).toArray)
  subst hsz
  have hD := hD0.self (sz := s.heap.size)
  generalize hAe : va_A [(ax, .inr (0, [.ref xt, .ref xp, .ref xs, .ref xl, .ref xb, .ref xk, .ref xm, .ref xq, .ref xg, .ref xf, .ref xe, .int 49])), (xb, .inl (dA 6, 3, .inr (.inr (.inr (.inr fb)))))] s.heap.size = A at hD hE ⊢
  have hA : ∀ q : Nat, s.heap.size ≤ q → A q := fun q h => by rw [← hAe]; exact Or.inr h
  have hS : va_S A s.heap s.heap [] := va_S.rf
  replace hP : va_P D zcl [(ax, .inr (0, [.ref xt, .ref xp, .ref xs, .ref xl, .ref xb, .ref xk, .ref xm, .ref xq, .ref xg, .ref xf, .ref xe, .int 49])), (xb, .inl (dA 6, 3, .inr (.inr (.inr (.inr fb)))))] s.heap := hP
  have hl := lv_entry ([.ref ax, .int (nI i), .int y0, .int y0]) (n := 4) (Nat.le_of_ble_eq_true rfl)
  rw [lg_entry_eq]
  generalize (lg_sl ([.ref ax, .int (nI i), .int y0, .int y0]) ++ List.replicate (4 - (lg_sl ([.ref ax, .int (nI i), .int y0, .int y0])).length) Slot.unset).toArray = ls at hl ⊢
  replace hl : lv_has ls 4 [(0, .ref ax), (1, .int (nI i)), (2, .int y0), (3, .int y0)] := hl
  refine lv_aload_n hx hb dX11_join_0 rfl (lv_at hl 0 rfl) ?_
  refine lv_iload_n hx hb dX11_join_1 rfl (lv_at hl 1 rfl) ?_
  refine lv_iconst (v := 2) hx hb dX11_join_2 (by decide) ?_
  refine lv_iload_n hx hb dX11_join_3 rfl (lv_at hl 2 rfl) ?_
  refine lv_iload_n hx hb dX11_join_4 rfl (lv_at hl 3 rfl) ?_
  have hPc := hP.sub (ws' := [(ax, .inr (0, [.ref xt, .ref xp, .ref xs, .ref xl, .ref xb, .ref xk, .ref xm, .ref xq, .ref xg, .ref xf, .ref xe, .int 49])), (xb, .inl (dA 6, 3, .inr (.inr (.inr (.inr fb)))))]) [0, 1] rfl
  have hDc := hD.sub (ws' := [(ax, .inr (0, [.ref xt, .ref xp, .ref xs, .ref xl, .ref xb, .ref xk, .ref xm, .ref xq, .ref xg, .ref xf, .ref xe, .int 49])), (xb, .inl (dA 6, 3, .inr (.inr (.inr (.inr fb)))))]) [0, 1] (by decide) rfl
  have hFc := va_free (wc := [(ax, .inr (0, [.ref xt, .ref xp, .ref xs, .ref xl, .ref xb, .ref xk, .ref xm, .ref xq, .ref xg, .ref xf, .ref xe, .int 49])), (xb, .inl (dA 6, 3, .inr (.inr (.inr (.inr fb)))))]) hD hS hA [0, 1] rfl
  refine zx_call (E0 := "java/lang/IllegalArgumentException") (vx_runV (As := [.int (nI i), .int 2, .int y0, .int y0]) (rest := []) ⟨hx, hb, hml, hown, hw⟩ (c_makeOfTwo_same l D dA dZ _ hfl ax xt xp xs xl xb xk xm xq xg xf xe i fb bk b1 b2 b3 b4 hd 2 y0 hi hf) (z_cwV 4 hw mw_756 mw_758 ms_15 mw_1 mw_759 rfl rfl (by decide +kernel) ⟨Nat.le_of_ble_eq_true rfl, Nat.le_of_ble_eq_true rfl⟩) (zPreV hPc hK hDc hT hE hS hFc (va_recv hK hP (ci := 0) (q0 := 0) rfl rfl)) rfl rfl hl.1 rfl (lv_room (Nat.le_of_ble_eq_true rfl)) dX11_join_5 ⟨Nat.le_of_ble_eq_true rfl, Nat.le_of_ble_eq_true rfl⟩) hS (fun q _ h => hFc q h) hFc (fun ce q9 H1 locs hz1 hk1 hS hce hcv hcl => ?_)
  exact vx_out (fun x hx => (hno x hx).elim) hlocks hce hcv hcl (fun t ht ha => zX_at hS ht) hS.2.2 (Nat.le_of_ble_eq_true rfl) (Nat.le_of_ble_eq_true rfl)
set_option maxHeartbeats 4000000 in
set_option maxRecDepth 100000 in
/-- join on a fresh object: dead -/
theorem c_join_dead (l : Launch) (D : va_G) (dA : Nat → ClassId) (dZ : Nat → Nat) (sz : Nat) (hfl : l.stackTraces = false) (ax : Nat) (xt : Nat) (xp : Nat) (xs : Nat) (xl : Nat) (xb : Nat) (xk : Nat) (xm : Nat) (xq : Nat) (xg : Nat) (xf : Nat) (xe : Nat) (i : Nat) (fb : Nat → Option Nat) (bk : Nat) (b1 : Nat) (b2 : Nat) (b3 : Nat) (b4 : Nat) (hd : Int32) (bl : Nat) (no : Nat) (ro : Nat) (y0 : Int32) (y1 : Int32) (hi : i < 3) (hf : fb i = some bk) (hne : ¬ y0 = y1) : vx_Met l yX11_join (wz yX11_join cX11_join 4 (some .int)) ({ frames := 14, cells := 1, slots := 6, locals := 400 } : Room) (va_Pc [.ref ax, .int (nI i), .int y0, .int y1] (zP D dA dZ [(ax, .inr (0, [.ref xt, .ref xp, .ref xs, .ref xl, .ref xb, .ref xk, .ref xm, .ref xq, .ref xg, .ref xf, .ref xe, .int 49])), (xb, .inl (dA 6, 3, .inr (.inr (.inr (.inr fb))))), (bk, .inr (5, [.int hd, .ref xl, .ref b1, .ref b2, .ref b3, .ref b4, .int 0, .int 0, .int 0])), (b3, .inl (dA 1, 250, .inl (fun _ => 0))), (xl, .inr (2, [.ref bl, .ref no, .ref ro, .int 0]))] sz)) zNo (zX "java/util/NoSuchElementException" (va_A [(ax, .inr (0, [.ref xt, .ref xp, .ref xs, .ref xl, .ref xb, .ref xk, .ref xm, .ref xq, .ref xg, .ref xf, .ref xe, .int 49])), (xb, .inl (dA 6, 3, .inr (.inr (.inr (.inr fb))))), (bk, .inr (5, [.int hd, .ref xl, .ref b1, .ref b2, .ref b3, .ref b4, .int 0, .int 0, .int 0])), (b3, .inl (dA 1, 250, .inl (fun _ => 0))), (xl, .inr (2, [.ref bl, .ref no, .ref ro, .int 0]))] sz)) 1 6 (va_A [(ax, .inr (0, [.ref xt, .ref xp, .ref xs, .ref xl, .ref xb, .ref xk, .ref xm, .ref xq, .ref xg, .ref xf, .ref xe, .int 49])), (xb, .inl (dA 6, 3, .inr (.inr (.inr (.inr fb))))), (bk, .inr (5, [.int hd, .ref xl, .ref b1, .ref b2, .ref b3, .ref b4, .int 0, .int 0, .int 0])), (b3, .inl (dA 1, 250, .inl (fun _ => 0))), (xl, .inr (2, [.ref bl, .ref no, .ref ro, .int 0]))] sz) := by
  refine vx_ofW (cc := cX11_join) (maxL := 4) (ret := (some .int)) (by decide) rfl ?_
  intro p e s m args below meth c s₁ B hml hno hv
  obtain ⟨rfl, hsz, hP, hK, hD0, hT, hE⟩ := hv
  have hx := B.exec
  have hb := B.bytes
  have hr := B.returns
  have hw := wz_hw (atoms_spec (ws := wz yX11_join cX11_join 4 (some .int)) B.pre)
  have hown : s.vm.findClass "KindredBooks" = some m.cls := findClass_of_methodNamed B.named
  have hlocks := B.notSynchronized
  have hn := hT.1.use (args := ([.ref ax, .int (nI i), .int y0, .int y1] : List Value).toArray)
  subst hsz
  have hD := hD0.self (sz := s.heap.size)
  generalize hAe : va_A [(ax, .inr (0, [.ref xt, .ref xp, .ref xs, .ref xl, .ref xb, .ref xk, .ref xm, .ref xq, .ref xg, .ref xf, .ref xe, .int 49])), (xb, .inl (dA 6, 3, .inr (.inr (.inr (.inr fb))))), (bk, .inr (5, [.int hd, .ref xl, .ref b1, .ref b2, .ref b3, .ref b4, .int 0, .int 0, .int 0])), (b3, .inl (dA 1, 250, .inl (fun _ => 0))), (xl, .inr (2, [.ref bl, .ref no, .ref ro, .int 0]))] s.heap.size = A at hD hE ⊢
  have hA : ∀ q : Nat, s.heap.size ≤ q → A q := fun q h => by rw [← hAe]; exact Or.inr h
  have hS : va_S A s.heap s.heap [] := va_S.rf
  replace hP : va_P D zcl [(ax, .inr (0, [.ref xt, .ref xp, .ref xs, .ref xl, .ref xb, .ref xk, .ref xm, .ref xq, .ref xg, .ref xf, .ref xe, .int 49])), (xb, .inl (dA 6, 3, .inr (.inr (.inr (.inr fb))))), (bk, .inr (5, [.int hd, .ref xl, .ref b1, .ref b2, .ref b3, .ref b4, .int 0, .int 0, .int 0])), (b3, .inl (dA 1, 250, .inl (fun _ => 0))), (xl, .inr (2, [.ref bl, .ref no, .ref ro, .int 0]))] s.heap := hP
  have hl := lv_entry ([.ref ax, .int (nI i), .int y0, .int y1]) (n := 4) (Nat.le_of_ble_eq_true rfl)
  rw [lg_entry_eq]
  generalize (lg_sl ([.ref ax, .int (nI i), .int y0, .int y1]) ++ List.replicate (4 - (lg_sl ([.ref ax, .int (nI i), .int y0, .int y1])).length) Slot.unset).toArray = ls at hl ⊢
  replace hl : lv_has ls 4 [(0, .ref ax), (1, .int (nI i)), (2, .int y0), (3, .int y1)] := hl
  refine lv_aload_n hx hb dX11_join_0 rfl (lv_at hl 0 rfl) ?_
  refine lv_iload_n hx hb dX11_join_1 rfl (lv_at hl 1 rfl) ?_
  refine lv_iconst (v := 2) hx hb dX11_join_2 (by decide) ?_
  refine lv_iload_n hx hb dX11_join_3 rfl (lv_at hl 2 rfl) ?_
  refine lv_iload_n hx hb dX11_join_4 rfl (lv_at hl 3 rfl) ?_
  have hPc := hP.sub (ws' := [(ax, .inr (0, [.ref xt, .ref xp, .ref xs, .ref xl, .ref xb, .ref xk, .ref xm, .ref xq, .ref xg, .ref xf, .ref xe, .int 49])), (xb, .inl (dA 6, 3, .inr (.inr (.inr (.inr fb))))), (bk, .inr (5, [.int hd, .ref xl, .ref b1, .ref b2, .ref b3, .ref b4, .int 0, .int 0, .int 0])), (b3, .inl (dA 1, 250, .inl (fun _ => 0))), (xl, .inr (2, [.ref bl, .ref no, .ref ro, .int 0]))]) [0, 1, 2, 3, 4] rfl
  have hDc := hD.sub (ws' := [(ax, .inr (0, [.ref xt, .ref xp, .ref xs, .ref xl, .ref xb, .ref xk, .ref xm, .ref xq, .ref xg, .ref xf, .ref xe, .int 49])), (xb, .inl (dA 6, 3, .inr (.inr (.inr (.inr fb))))), (bk, .inr (5, [.int hd, .ref xl, .ref b1, .ref b2, .ref b3, .ref b4, .int 0, .int 0, .int 0])), (b3, .inl (dA 1, 250, .inl (fun _ => 0))), (xl, .inr (2, [.ref bl, .ref no, .ref ro, .int 0]))]) [0, 1, 2, 3, 4] (by decide) rfl
  have hFc := va_free (wc := [(ax, .inr (0, [.ref xt, .ref xp, .ref xs, .ref xl, .ref xb, .ref xk, .ref xm, .ref xq, .ref xg, .ref xf, .ref xe, .int 49])), (xb, .inl (dA 6, 3, .inr (.inr (.inr (.inr fb))))), (bk, .inr (5, [.int hd, .ref xl, .ref b1, .ref b2, .ref b3, .ref b4, .int 0, .int 0, .int 0])), (b3, .inl (dA 1, 250, .inl (fun _ => 0))), (xl, .inr (2, [.ref bl, .ref no, .ref ro, .int 0]))]) hD hS hA [0, 1, 2, 3, 4] rfl
  refine zx_call (E0 := "java/util/NoSuchElementException") (vx_runV (As := [.int (nI i), .int 2, .int y0, .int y1]) (rest := []) ⟨hx, hb, hml, hown, hw⟩ (c_makeOfTwo_dead l D dA dZ _ hfl ax xt xp xs xl xb xk xm xq xg xf xe i fb bk b1 b2 b3 b4 hd bl no ro 2 y0 y1 hi hf hne) (z_cwV 4 hw mw_756 mw_758 ms_15 mw_1 mw_759 rfl rfl (by decide +kernel) ⟨Nat.le_of_ble_eq_true rfl, Nat.le_of_ble_eq_true rfl⟩) (zPreV hPc hK hDc hT hE hS hFc (va_recv hK hP (ci := 0) (q0 := 0) rfl rfl)) rfl rfl hl.1 rfl (lv_room (Nat.le_of_ble_eq_true rfl)) dX11_join_5 ⟨Nat.le_of_ble_eq_true rfl, Nat.le_of_ble_eq_true rfl⟩) hS (fun q _ h => hFc q h) hFc (fun ce q9 H1 locs hz1 hk1 hS hce hcv hcl => ?_)
  exact vx_out (fun x hx => (hno x hx).elim) hlocks hce hcv hcl (fun t ht ha => zX_at hS ht) hS.2.2 (Nat.le_of_ble_eq_true rfl) (Nat.le_of_ble_eq_true rfl)
set_option maxHeartbeats 4000000 in
set_option maxRecDepth 100000 in
/-- never: no such book -/
theorem c_never_bad (l : Launch) (D : va_G) (dA : Nat → ClassId) (dZ : Nat → Nat) (sz : Nat) (hfl : l.stackTraces = false) (ax : Nat) (xt : Nat) (xp : Nat) (xs : Nat) (xl : Nat) (xb : Nat) (xk : Nat) (xm : Nat) (xq : Nat) (xg : Nat) (xf : Nat) (xe : Nat) (b : Int32) (y0 : Int32) (y1 : Int32) (hz : zbad b) : vx_Met l yX11_never (wz yX11_never cX11_never 4 (some .int)) ({ frames := 9, cells := 1, slots := 6, locals := 200 } : Room) (va_Pc [.ref ax, .int b, .int y0, .int y1] (zP D dA dZ [(ax, .inr (0, [.ref xt, .ref xp, .ref xs, .ref xl, .ref xb, .ref xk, .ref xm, .ref xq, .ref xg, .ref xf, .ref xe, .int 49]))] sz)) zNo (zX "java/lang/IndexOutOfBoundsException" (va_A [(ax, .inr (0, [.ref xt, .ref xp, .ref xs, .ref xl, .ref xb, .ref xk, .ref xm, .ref xq, .ref xg, .ref xf, .ref xe, .int 49]))] sz)) 1 6 (va_A [(ax, .inr (0, [.ref xt, .ref xp, .ref xs, .ref xl, .ref xb, .ref xk, .ref xm, .ref xq, .ref xg, .ref xf, .ref xe, .int 49]))] sz) := by
  refine vx_ofW (cc := cX11_never) (maxL := 4) (ret := (some .int)) (by decide) rfl ?_
  intro p e s m args below meth c s₁ B hml hno hv
  obtain ⟨rfl, hsz, hP, hK, hD0, hT, hE⟩ := hv
  have hx := B.exec
  have hb := B.bytes
  have hr := B.returns
  have hw := wz_hw (atoms_spec (ws := wz yX11_never cX11_never 4 (some .int)) B.pre)
  have hown : s.vm.findClass "KindredBooks" = some m.cls := findClass_of_methodNamed B.named
  have hlocks := B.notSynchronized
  have hn := hT.1.use (args := ([.ref ax, .int b, .int y0, .int y1] : List Value).toArray)
  subst hsz
  have hD := hD0.self (sz := s.heap.size)
  generalize hAe : va_A [(ax, .inr (0, [.ref xt, .ref xp, .ref xs, .ref xl, .ref xb, .ref xk, .ref xm, .ref xq, .ref xg, .ref xf, .ref xe, .int 49]))] s.heap.size = A at hD hE ⊢
  have hA : ∀ q : Nat, s.heap.size ≤ q → A q := fun q h => by rw [← hAe]; exact Or.inr h
  have hS : va_S A s.heap s.heap [] := va_S.rf
  replace hP : va_P D zcl [(ax, .inr (0, [.ref xt, .ref xp, .ref xs, .ref xl, .ref xb, .ref xk, .ref xm, .ref xq, .ref xg, .ref xf, .ref xe, .int 49]))] s.heap := hP
  have hl := lv_entry ([.ref ax, .int b, .int y0, .int y1]) (n := 4) (Nat.le_of_ble_eq_true rfl)
  rw [lg_entry_eq]
  generalize (lg_sl ([.ref ax, .int b, .int y0, .int y1]) ++ List.replicate (4 - (lg_sl ([.ref ax, .int b, .int y0, .int y1])).length) Slot.unset).toArray = ls at hl ⊢
  replace hl : lv_has ls 4 [(0, .ref ax), (1, .int b), (2, .int y0), (3, .int y1)] := hl
  refine lv_aload_n hx hb dX11_never_0 rfl (lv_at hl 0 rfl) ?_
  refine lv_iload_n hx hb dX11_never_1 rfl (lv_at hl 1 rfl) ?_
  refine lv_iconst (v := 3) hx hb dX11_never_2 (by decide) ?_
  refine lv_iload_n hx hb dX11_never_3 rfl (lv_at hl 2 rfl) ?_
  refine lv_iload_n hx hb dX11_never_4 rfl (lv_at hl 3 rfl) ?_
  have hPc := hP.sub (ws' := [(ax, .inr (0, [.ref xt, .ref xp, .ref xs, .ref xl, .ref xb, .ref xk, .ref xm, .ref xq, .ref xg, .ref xf, .ref xe, .int 49]))]) [0] rfl
  have hDc := hD.sub (ws' := [(ax, .inr (0, [.ref xt, .ref xp, .ref xs, .ref xl, .ref xb, .ref xk, .ref xm, .ref xq, .ref xg, .ref xf, .ref xe, .int 49]))]) [0] (by decide) rfl
  have hFc := va_free (wc := [(ax, .inr (0, [.ref xt, .ref xp, .ref xs, .ref xl, .ref xb, .ref xk, .ref xm, .ref xq, .ref xg, .ref xf, .ref xe, .int 49]))]) hD hS hA [0] rfl
  refine zx_call (E0 := "java/lang/IndexOutOfBoundsException") (vx_runV (As := [.int b, .int 3, .int y0, .int y1]) (rest := []) ⟨hx, hb, hml, hown, hw⟩ (c_makeOfTwo_bad l D dA dZ _ hfl ax xt xp xs xl xb xk xm xq xg xf xe b 3 y0 y1 hz) (z_cwV 4 hw mw_756 mw_758 ms_15 mw_1 mw_759 rfl rfl (by decide +kernel) ⟨Nat.le_of_ble_eq_true rfl, Nat.le_of_ble_eq_true rfl⟩) (zPreV hPc hK hDc hT hE hS hFc (va_recv hK hP (ci := 0) (q0 := 0) rfl rfl)) rfl rfl hl.1 rfl (lv_room (Nat.le_of_ble_eq_true rfl)) dX11_never_5 ⟨Nat.le_of_ble_eq_true rfl, Nat.le_of_ble_eq_true rfl⟩) hS (fun q _ h => hFc q h) hFc (fun ce q9 H1 locs hz1 hk1 hS hce hcv hcl => ?_)
  exact vx_out (fun x hx => (hno x hx).elim) hlocks hce hcv hcl (fun t ht ha => zX_at hS ht) hS.2.2 (Nat.le_of_ble_eq_true rfl) (Nat.le_of_ble_eq_true rfl)
set_option maxHeartbeats 4000000 in
set_option maxRecDepth 100000 in
/-- never on a fresh object: same -/
theorem c_never_same (l : Launch) (D : va_G) (dA : Nat → ClassId) (dZ : Nat → Nat) (sz : Nat) (hfl : l.stackTraces = false) (ax : Nat) (xt : Nat) (xp : Nat) (xs : Nat) (xl : Nat) (xb : Nat) (xk : Nat) (xm : Nat) (xq : Nat) (xg : Nat) (xf : Nat) (xe : Nat) (i : Nat) (fb : Nat → Option Nat) (bk : Nat) (b1 : Nat) (b2 : Nat) (b3 : Nat) (b4 : Nat) (hd : Int32) (y0 : Int32) (hi : i < 3) (hf : fb i = some bk) : vx_Met l yX11_never (wz yX11_never cX11_never 4 (some .int)) ({ frames := 14, cells := 1, slots := 6, locals := 400 } : Room) (va_Pc [.ref ax, .int (nI i), .int y0, .int y0] (zP D dA dZ [(ax, .inr (0, [.ref xt, .ref xp, .ref xs, .ref xl, .ref xb, .ref xk, .ref xm, .ref xq, .ref xg, .ref xf, .ref xe, .int 49])), (xb, .inl (dA 6, 3, .inr (.inr (.inr (.inr fb)))))] sz)) zNo (zX "java/lang/IllegalArgumentException" (va_A [(ax, .inr (0, [.ref xt, .ref xp, .ref xs, .ref xl, .ref xb, .ref xk, .ref xm, .ref xq, .ref xg, .ref xf, .ref xe, .int 49])), (xb, .inl (dA 6, 3, .inr (.inr (.inr (.inr fb)))))] sz)) 1 6 (va_A [(ax, .inr (0, [.ref xt, .ref xp, .ref xs, .ref xl, .ref xb, .ref xk, .ref xm, .ref xq, .ref xg, .ref xf, .ref xe, .int 49])), (xb, .inl (dA 6, 3, .inr (.inr (.inr (.inr fb)))))] sz) := by
  refine vx_ofW (cc := cX11_never) (maxL := 4) (ret := (some .int)) (by decide) rfl ?_
  intro p e s m args below meth c s₁ B hml hno hv
  obtain ⟨rfl, hsz, hP, hK, hD0, hT, hE⟩ := hv
  have hx := B.exec
  have hb := B.bytes
  have hr := B.returns
  have hw := wz_hw (atoms_spec (ws := wz yX11_never cX11_never 4 (some .int)) B.pre)
  have hown : s.vm.findClass "KindredBooks" = some m.cls := findClass_of_methodNamed B.named
  have hlocks := B.notSynchronized
  have hn := hT.1.use (args := ([.ref ax, .int (nI i), .int y0, .int y0] : List Value).toArray)
  subst hsz
  have hD := hD0.self (sz := s.heap.size)
  generalize hAe : va_A [(ax, .inr (0, [.ref xt, .ref xp, .ref xs, .ref xl, .ref xb, .ref xk, .ref xm, .ref xq, .ref xg, .ref xf, .ref xe, .int 49])), (xb, .inl (dA 6, 3, .inr (.inr (.inr (.inr fb)))))] s.heap.size = A at hD hE ⊢
  have hA : ∀ q : Nat, s.heap.size ≤ q → A q := fun q h => by rw [← hAe]; exact Or.inr h
  have hS : va_S A s.heap s.heap [] := va_S.rf
  replace hP : va_P D zcl [(ax, .inr (0, [.ref xt, .ref xp, .ref xs, .ref xl, .ref xb, .ref xk, .ref xm, .ref xq, .ref xg, .ref xf, .ref xe, .int 49])), (xb, .inl (dA 6, 3, .inr (.inr (.inr (.inr fb)))))] s.heap := hP
  have hl := lv_entry ([.ref ax, .int (nI i), .int y0, .int y0]) (n := 4) (Nat.le_of_ble_eq_true rfl)
  rw [lg_entry_eq]
  generalize (lg_sl ([.ref ax, .int (nI i), .int y0, .int y0]) ++ List.replicate (4 - (lg_sl ([.ref ax, .int (nI i), .int y0, .int y0])).length) Slot.unset).toArray = ls at hl ⊢
  replace hl : lv_has ls 4 [(0, .ref ax), (1, .int (nI i)), (2, .int y0), (3, .int y0)] := hl
  refine lv_aload_n hx hb dX11_never_0 rfl (lv_at hl 0 rfl) ?_
  refine lv_iload_n hx hb dX11_never_1 rfl (lv_at hl 1 rfl) ?_
  refine lv_iconst (v := 3) hx hb dX11_never_2 (by decide) ?_
  refine lv_iload_n hx hb dX11_never_3 rfl (lv_at hl 2 rfl) ?_
  refine lv_iload_n hx hb dX11_never_4 rfl (lv_at hl 3 rfl) ?_
  have hPc := hP.sub (ws' := [(ax, .inr (0, [.ref xt, .ref xp, .ref xs, .ref xl, .ref xb, .ref xk, .ref xm, .ref xq, .ref xg, .ref xf, .ref xe, .int 49])), (xb, .inl (dA 6, 3, .inr (.inr (.inr (.inr fb)))))]) [0, 1] rfl
  have hDc := hD.sub (ws' := [(ax, .inr (0, [.ref xt, .ref xp, .ref xs, .ref xl, .ref xb, .ref xk, .ref xm, .ref xq, .ref xg, .ref xf, .ref xe, .int 49])), (xb, .inl (dA 6, 3, .inr (.inr (.inr (.inr fb)))))]) [0, 1] (by decide) rfl
  have hFc := va_free (wc := [(ax, .inr (0, [.ref xt, .ref xp, .ref xs, .ref xl, .ref xb, .ref xk, .ref xm, .ref xq, .ref xg, .ref xf, .ref xe, .int 49])), (xb, .inl (dA 6, 3, .inr (.inr (.inr (.inr fb)))))]) hD hS hA [0, 1] rfl
  refine zx_call (E0 := "java/lang/IllegalArgumentException") (vx_runV (As := [.int (nI i), .int 3, .int y0, .int y0]) (rest := []) ⟨hx, hb, hml, hown, hw⟩ (c_makeOfTwo_same l D dA dZ _ hfl ax xt xp xs xl xb xk xm xq xg xf xe i fb bk b1 b2 b3 b4 hd 3 y0 hi hf) (z_cwV 4 hw mw_756 mw_758 ms_15 mw_1 mw_759 rfl rfl (by decide +kernel) ⟨Nat.le_of_ble_eq_true rfl, Nat.le_of_ble_eq_true rfl⟩) (zPreV hPc hK hDc hT hE hS hFc (va_recv hK hP (ci := 0) (q0 := 0) rfl rfl)) rfl rfl hl.1 rfl (lv_room (Nat.le_of_ble_eq_true rfl)) dX11_never_5 ⟨Nat.le_of_ble_eq_true rfl, Nat.le_of_ble_eq_true rfl⟩) hS (fun q _ h => hFc q h) hFc (fun ce q9 H1 locs hz1 hk1 hS hce hcv hcl => ?_)
  exact vx_out (fun x hx => (hno x hx).elim) hlocks hce hcv hcl (fun t ht ha => zX_at hS ht) hS.2.2 (Nat.le_of_ble_eq_true rfl) (Nat.le_of_ble_eq_true rfl)
set_option maxHeartbeats 4000000 in
set_option maxRecDepth 100000 in
/-- never on a fresh object: dead -/
theorem c_never_dead (l : Launch) (D : va_G) (dA : Nat → ClassId) (dZ : Nat → Nat) (sz : Nat) (hfl : l.stackTraces = false) (ax : Nat) (xt : Nat) (xp : Nat) (xs : Nat) (xl : Nat) (xb : Nat) (xk : Nat) (xm : Nat) (xq : Nat) (xg : Nat) (xf : Nat) (xe : Nat) (i : Nat) (fb : Nat → Option Nat) (bk : Nat) (b1 : Nat) (b2 : Nat) (b3 : Nat) (b4 : Nat) (hd : Int32) (bl : Nat) (no : Nat) (ro : Nat) (y0 : Int32) (y1 : Int32) (hi : i < 3) (hf : fb i = some bk) (hne : ¬ y0 = y1) : vx_Met l yX11_never (wz yX11_never cX11_never 4 (some .int)) ({ frames := 14, cells := 1, slots := 6, locals := 400 } : Room) (va_Pc [.ref ax, .int (nI i), .int y0, .int y1] (zP D dA dZ [(ax, .inr (0, [.ref xt, .ref xp, .ref xs, .ref xl, .ref xb, .ref xk, .ref xm, .ref xq, .ref xg, .ref xf, .ref xe, .int 49])), (xb, .inl (dA 6, 3, .inr (.inr (.inr (.inr fb))))), (bk, .inr (5, [.int hd, .ref xl, .ref b1, .ref b2, .ref b3, .ref b4, .int 0, .int 0, .int 0])), (b3, .inl (dA 1, 250, .inl (fun _ => 0))), (xl, .inr (2, [.ref bl, .ref no, .ref ro, .int 0]))] sz)) zNo (zX "java/util/NoSuchElementException" (va_A [(ax, .inr (0, [.ref xt, .ref xp, .ref xs, .ref xl, .ref xb, .ref xk, .ref xm, .ref xq, .ref xg, .ref xf, .ref xe, .int 49])), (xb, .inl (dA 6, 3, .inr (.inr (.inr (.inr fb))))), (bk, .inr (5, [.int hd, .ref xl, .ref b1, .ref b2, .ref b3, .ref b4, .int 0, .int 0, .int 0])), (b3, .inl (dA 1, 250, .inl (fun _ => 0))), (xl, .inr (2, [.ref bl, .ref no, .ref ro, .int 0]))] sz)) 1 6 (va_A [(ax, .inr (0, [.ref xt, .ref xp, .ref xs, .ref xl, .ref xb, .ref xk, .ref xm, .ref xq, .ref xg, .ref xf, .ref xe, .int 49])), (xb, .inl (dA 6, 3, .inr (.inr (.inr (.inr fb))))), (bk, .inr (5, [.int hd, .ref xl, .ref b1, .ref b2, .ref b3, .ref b4, .int 0, .int 0, .int 0])), (b3, .inl (dA 1, 250, .inl (fun _ => 0))), (xl, .inr (2, [.ref bl, .ref no, .ref ro, .int 0]))] sz) := by
  refine vx_ofW (cc := cX11_never) (maxL := 4) (ret := (some .int)) (by decide) rfl ?_
  intro p e s m args below meth c s₁ B hml hno hv
  obtain ⟨rfl, hsz, hP, hK, hD0, hT, hE⟩ := hv
  have hx := B.exec
  have hb := B.bytes
  have hr := B.returns
  have hw := wz_hw (atoms_spec (ws := wz yX11_never cX11_never 4 (some .int)) B.pre)
  have hown : s.vm.findClass "KindredBooks" = some m.cls := findClass_of_methodNamed B.named
  have hlocks := B.notSynchronized
  have hn := hT.1.use (args := ([.ref ax, .int (nI i), .int y0, .int y1] : List Value).toArray)
  subst hsz
  have hD := hD0.self (sz := s.heap.size)
  generalize hAe : va_A [(ax, .inr (0, [.ref xt, .ref xp, .ref xs, .ref xl, .ref xb, .ref xk, .ref xm, .ref xq, .ref xg, .ref xf, .ref xe, .int 49])), (xb, .inl (dA 6, 3, .inr (.inr (.inr (.inr fb))))), (bk, .inr (5, [.int hd, .ref xl, .ref b1, .ref b2, .ref b3, .ref b4, .int 0, .int 0, .int 0])), (b3, .inl (dA 1, 250, .inl (fun _ => 0))), (xl, .inr (2, [.ref bl, .ref no, .ref ro, .int 0]))] s.heap.size = A at hD hE ⊢
  have hA : ∀ q : Nat, s.heap.size ≤ q → A q := fun q h => by rw [← hAe]; exact Or.inr h
  have hS : va_S A s.heap s.heap [] := va_S.rf
  replace hP : va_P D zcl [(ax, .inr (0, [.ref xt, .ref xp, .ref xs, .ref xl, .ref xb, .ref xk, .ref xm, .ref xq, .ref xg, .ref xf, .ref xe, .int 49])), (xb, .inl (dA 6, 3, .inr (.inr (.inr (.inr fb))))), (bk, .inr (5, [.int hd, .ref xl, .ref b1, .ref b2, .ref b3, .ref b4, .int 0, .int 0, .int 0])), (b3, .inl (dA 1, 250, .inl (fun _ => 0))), (xl, .inr (2, [.ref bl, .ref no, .ref ro, .int 0]))] s.heap := hP
  have hl := lv_entry ([.ref ax, .int (nI i), .int y0, .int y1]) (n := 4) (Nat.le_of_ble_eq_true rfl)
  rw [lg_entry_eq]
  generalize (lg_sl ([.ref ax, .int (nI i), .int y0, .int y1]) ++ List.replicate (4 - (lg_sl ([.ref ax, .int (nI i), .int y0, .int y1])).length) Slot.unset).toArray = ls at hl ⊢
  replace hl : lv_has ls 4 [(0, .ref ax), (1, .int (nI i)), (2, .int y0), (3, .int y1)] := hl
  refine lv_aload_n hx hb dX11_never_0 rfl (lv_at hl 0 rfl) ?_
  refine lv_iload_n hx hb dX11_never_1 rfl (lv_at hl 1 rfl) ?_
  refine lv_iconst (v := 3) hx hb dX11_never_2 (by decide) ?_
  refine lv_iload_n hx hb dX11_never_3 rfl (lv_at hl 2 rfl) ?_
  refine lv_iload_n hx hb dX11_never_4 rfl (lv_at hl 3 rfl) ?_
  have hPc := hP.sub (ws' := [(ax, .inr (0, [.ref xt, .ref xp, .ref xs, .ref xl, .ref xb, .ref xk, .ref xm, .ref xq, .ref xg, .ref xf, .ref xe, .int 49])), (xb, .inl (dA 6, 3, .inr (.inr (.inr (.inr fb))))), (bk, .inr (5, [.int hd, .ref xl, .ref b1, .ref b2, .ref b3, .ref b4, .int 0, .int 0, .int 0])), (b3, .inl (dA 1, 250, .inl (fun _ => 0))), (xl, .inr (2, [.ref bl, .ref no, .ref ro, .int 0]))]) [0, 1, 2, 3, 4] rfl
  have hDc := hD.sub (ws' := [(ax, .inr (0, [.ref xt, .ref xp, .ref xs, .ref xl, .ref xb, .ref xk, .ref xm, .ref xq, .ref xg, .ref xf, .ref xe, .int 49])), (xb, .inl (dA 6, 3, .inr (.inr (.inr (.inr fb))))), (bk, .inr (5, [.int hd, .ref xl, .ref b1, .ref b2, .ref b3, .ref b4, .int 0, .int 0, .int 0])), (b3, .inl (dA 1, 250, .inl (fun _ => 0))), (xl, .inr (2, [.ref bl, .ref no, .ref ro, .int 0]))]) [0, 1, 2, 3, 4] (by decide) rfl
  have hFc := va_free (wc := [(ax, .inr (0, [.ref xt, .ref xp, .ref xs, .ref xl, .ref xb, .ref xk, .ref xm, .ref xq, .ref xg, .ref xf, .ref xe, .int 49])), (xb, .inl (dA 6, 3, .inr (.inr (.inr (.inr fb))))), (bk, .inr (5, [.int hd, .ref xl, .ref b1, .ref b2, .ref b3, .ref b4, .int 0, .int 0, .int 0])), (b3, .inl (dA 1, 250, .inl (fun _ => 0))), (xl, .inr (2, [.ref bl, .ref no, .ref ro, .int 0]))]) hD hS hA [0, 1, 2, 3, 4] rfl
  refine zx_call (E0 := "java/util/NoSuchElementException") (vx_runV (As := [.int (nI i), .int 3, .int y0, .int y1]) (rest := []) ⟨hx, hb, hml, hown, hw⟩ (c_makeOfTwo_dead l D dA dZ _ hfl ax xt xp xs xl xb xk xm xq xg xf xe i fb bk b1 b2 b3 b4 hd bl no ro 3 y0 y1 hi hf hne) (z_cwV 4 hw mw_756 mw_758 ms_15 mw_1 mw_759 rfl rfl (by decide +kernel) ⟨Nat.le_of_ble_eq_true rfl, Nat.le_of_ble_eq_true rfl⟩) (zPreV hPc hK hDc hT hE hS hFc (va_recv hK hP (ci := 0) (q0 := 0) rfl rfl)) rfl rfl hl.1 rfl (lv_room (Nat.le_of_ble_eq_true rfl)) dX11_never_5 ⟨Nat.le_of_ble_eq_true rfl, Nat.le_of_ble_eq_true rfl⟩) hS (fun q _ h => hFc q h) hFc (fun ce q9 H1 locs hz1 hk1 hS hce hcv hcl => ?_)
  exact vx_out (fun x hx => (hno x hx).elim) hlocks hce hcv hcl (fun t ht ha => zX_at hS ht) hS.2.2 (Nat.le_of_ble_eq_true rfl) (Nat.le_of_ble_eq_true rfl)
set_option maxHeartbeats 4000000 in
set_option maxRecDepth 100000 in
/-- member: no such book -/
theorem c_member_bad (l : Launch) (D : va_G) (dA : Nat → ClassId) (dZ : Nat → Nat) (sz : Nat) (hfl : l.stackTraces = false) (ax : Nat) (xt : Nat) (xp : Nat) (xs : Nat) (xl : Nat) (xb : Nat) (xk : Nat) (xm : Nat) (xq : Nat) (xg : Nat) (xf : Nat) (xe : Nat) (b : Int32) (y0 : Int32) (y1 : Int32) (hz : zbad b) : vx_Met l yX11_member (wz yX11_member cX11_member 4 (some .int)) ({ frames := 9, cells := 1, slots := 6, locals := 200 } : Room) (va_Pc [.ref ax, .int b, .int y0, .int y1] (zP D dA dZ [(ax, .inr (0, [.ref xt, .ref xp, .ref xs, .ref xl, .ref xb, .ref xk, .ref xm, .ref xq, .ref xg, .ref xf, .ref xe, .int 49]))] sz)) zNo (zX "java/lang/IndexOutOfBoundsException" (va_A [(ax, .inr (0, [.ref xt, .ref xp, .ref xs, .ref xl, .ref xb, .ref xk, .ref xm, .ref xq, .ref xg, .ref xf, .ref xe, .int 49]))] sz)) 1 6 (va_A [(ax, .inr (0, [.ref xt, .ref xp, .ref xs, .ref xl, .ref xb, .ref xk, .ref xm, .ref xq, .ref xg, .ref xf, .ref xe, .int 49]))] sz) := by
  refine vx_ofW (cc := cX11_member) (maxL := 4) (ret := (some .int)) (by decide) rfl ?_
  intro p e s m args below meth c s₁ B hml hno hv
  obtain ⟨rfl, hsz, hP, hK, hD0, hT, hE⟩ := hv
  have hx := B.exec
  have hb := B.bytes
  have hr := B.returns
  have hw := wz_hw (atoms_spec (ws := wz yX11_member cX11_member 4 (some .int)) B.pre)
  have hown : s.vm.findClass "KindredBooks" = some m.cls := findClass_of_methodNamed B.named
  have hlocks := B.notSynchronized
  have hn := hT.1.use (args := ([.ref ax, .int b, .int y0, .int y1] : List Value).toArray)
  subst hsz
  have hD := hD0.self (sz := s.heap.size)
  generalize hAe : va_A [(ax, .inr (0, [.ref xt, .ref xp, .ref xs, .ref xl, .ref xb, .ref xk, .ref xm, .ref xq, .ref xg, .ref xf, .ref xe, .int 49]))] s.heap.size = A at hD hE ⊢
  have hA : ∀ q : Nat, s.heap.size ≤ q → A q := fun q h => by rw [← hAe]; exact Or.inr h
  have hS : va_S A s.heap s.heap [] := va_S.rf
  replace hP : va_P D zcl [(ax, .inr (0, [.ref xt, .ref xp, .ref xs, .ref xl, .ref xb, .ref xk, .ref xm, .ref xq, .ref xg, .ref xf, .ref xe, .int 49]))] s.heap := hP
  have hl := lv_entry ([.ref ax, .int b, .int y0, .int y1]) (n := 4) (Nat.le_of_ble_eq_true rfl)
  rw [lg_entry_eq]
  generalize (lg_sl ([.ref ax, .int b, .int y0, .int y1]) ++ List.replicate (4 - (lg_sl ([.ref ax, .int b, .int y0, .int y1])).length) Slot.unset).toArray = ls at hl ⊢
  replace hl : lv_has ls 4 [(0, .ref ax), (1, .int b), (2, .int y0), (3, .int y1)] := hl
  refine lv_aload_n hx hb dX11_member_0 rfl (lv_at hl 0 rfl) ?_
  refine lv_iload_n hx hb dX11_member_1 rfl (lv_at hl 1 rfl) ?_
  refine lv_iconst (v := 4) hx hb dX11_member_2 (by decide) ?_
  refine lv_iload_n hx hb dX11_member_3 rfl (lv_at hl 2 rfl) ?_
  refine lv_iload_n hx hb dX11_member_4 rfl (lv_at hl 3 rfl) ?_
  have hPc := hP.sub (ws' := [(ax, .inr (0, [.ref xt, .ref xp, .ref xs, .ref xl, .ref xb, .ref xk, .ref xm, .ref xq, .ref xg, .ref xf, .ref xe, .int 49]))]) [0] rfl
  have hDc := hD.sub (ws' := [(ax, .inr (0, [.ref xt, .ref xp, .ref xs, .ref xl, .ref xb, .ref xk, .ref xm, .ref xq, .ref xg, .ref xf, .ref xe, .int 49]))]) [0] (by decide) rfl
  have hFc := va_free (wc := [(ax, .inr (0, [.ref xt, .ref xp, .ref xs, .ref xl, .ref xb, .ref xk, .ref xm, .ref xq, .ref xg, .ref xf, .ref xe, .int 49]))]) hD hS hA [0] rfl
  refine zx_call (E0 := "java/lang/IndexOutOfBoundsException") (vx_runV (As := [.int b, .int 4, .int y0, .int y1]) (rest := []) ⟨hx, hb, hml, hown, hw⟩ (c_makeOfTwo_bad l D dA dZ _ hfl ax xt xp xs xl xb xk xm xq xg xf xe b 4 y0 y1 hz) (z_cwV 4 hw mw_756 mw_758 ms_15 mw_1 mw_759 rfl rfl (by decide +kernel) ⟨Nat.le_of_ble_eq_true rfl, Nat.le_of_ble_eq_true rfl⟩) (zPreV hPc hK hDc hT hE hS hFc (va_recv hK hP (ci := 0) (q0 := 0) rfl rfl)) rfl rfl hl.1 rfl (lv_room (Nat.le_of_ble_eq_true rfl)) dX11_member_5 ⟨Nat.le_of_ble_eq_true rfl, Nat.le_of_ble_eq_true rfl⟩) hS (fun q _ h => hFc q h) hFc (fun ce q9 H1 locs hz1 hk1 hS hce hcv hcl => ?_)
  exact vx_out (fun x hx => (hno x hx).elim) hlocks hce hcv hcl (fun t ht ha => zX_at hS ht) hS.2.2 (Nat.le_of_ble_eq_true rfl) (Nat.le_of_ble_eq_true rfl)
set_option maxHeartbeats 4000000 in
set_option maxRecDepth 100000 in
/-- member on a fresh object: same -/
theorem c_member_same (l : Launch) (D : va_G) (dA : Nat → ClassId) (dZ : Nat → Nat) (sz : Nat) (hfl : l.stackTraces = false) (ax : Nat) (xt : Nat) (xp : Nat) (xs : Nat) (xl : Nat) (xb : Nat) (xk : Nat) (xm : Nat) (xq : Nat) (xg : Nat) (xf : Nat) (xe : Nat) (i : Nat) (fb : Nat → Option Nat) (bk : Nat) (b1 : Nat) (b2 : Nat) (b3 : Nat) (b4 : Nat) (hd : Int32) (y0 : Int32) (hi : i < 3) (hf : fb i = some bk) : vx_Met l yX11_member (wz yX11_member cX11_member 4 (some .int)) ({ frames := 14, cells := 1, slots := 6, locals := 400 } : Room) (va_Pc [.ref ax, .int (nI i), .int y0, .int y0] (zP D dA dZ [(ax, .inr (0, [.ref xt, .ref xp, .ref xs, .ref xl, .ref xb, .ref xk, .ref xm, .ref xq, .ref xg, .ref xf, .ref xe, .int 49])), (xb, .inl (dA 6, 3, .inr (.inr (.inr (.inr fb)))))] sz)) zNo (zX "java/lang/IllegalArgumentException" (va_A [(ax, .inr (0, [.ref xt, .ref xp, .ref xs, .ref xl, .ref xb, .ref xk, .ref xm, .ref xq, .ref xg, .ref xf, .ref xe, .int 49])), (xb, .inl (dA 6, 3, .inr (.inr (.inr (.inr fb)))))] sz)) 1 6 (va_A [(ax, .inr (0, [.ref xt, .ref xp, .ref xs, .ref xl, .ref xb, .ref xk, .ref xm, .ref xq, .ref xg, .ref xf, .ref xe, .int 49])), (xb, .inl (dA 6, 3, .inr (.inr (.inr (.inr fb)))))] sz) := by
  refine vx_ofW (cc := cX11_member) (maxL := 4) (ret := (some .int)) (by decide) rfl ?_
  intro p e s m args below meth c s₁ B hml hno hv
  obtain ⟨rfl, hsz, hP, hK, hD0, hT, hE⟩ := hv
  have hx := B.exec
  have hb := B.bytes
  have hr := B.returns
  have hw := wz_hw (atoms_spec (ws := wz yX11_member cX11_member 4 (some .int)) B.pre)
  have hown : s.vm.findClass "KindredBooks" = some m.cls := findClass_of_methodNamed B.named
  have hlocks := B.notSynchronized
  have hn := hT.1.use (args := ([.ref ax, .int (nI i), .int y0, .int y0] : List Value).toArray)
  subst hsz
  have hD := hD0.self (sz := s.heap.size)
  generalize hAe : va_A [(ax, .inr (0, [.ref xt, .ref xp, .ref xs, .ref xl, .ref xb, .ref xk, .ref xm, .ref xq, .ref xg, .ref xf, .ref xe, .int 49])), (xb, .inl (dA 6, 3, .inr (.inr (.inr (.inr fb)))))] s.heap.size = A at hD hE ⊢
  have hA : ∀ q : Nat, s.heap.size ≤ q → A q := fun q h => by rw [← hAe]; exact Or.inr h
  have hS : va_S A s.heap s.heap [] := va_S.rf
  replace hP : va_P D zcl [(ax, .inr (0, [.ref xt, .ref xp, .ref xs, .ref xl, .ref xb, .ref xk, .ref xm, .ref xq, .ref xg, .ref xf, .ref xe, .int 49])), (xb, .inl (dA 6, 3, .inr (.inr (.inr (.inr fb)))))] s.heap := hP
  have hl := lv_entry ([.ref ax, .int (nI i), .int y0, .int y0]) (n := 4) (Nat.le_of_ble_eq_true rfl)
  rw [lg_entry_eq]
  generalize (lg_sl ([.ref ax, .int (nI i), .int y0, .int y0]) ++ List.replicate (4 - (lg_sl ([.ref ax, .int (nI i), .int y0, .int y0])).length) Slot.unset).toArray = ls at hl ⊢
  replace hl : lv_has ls 4 [(0, .ref ax), (1, .int (nI i)), (2, .int y0), (3, .int y0)] := hl
  refine lv_aload_n hx hb dX11_member_0 rfl (lv_at hl 0 rfl) ?_
  refine lv_iload_n hx hb dX11_member_1 rfl (lv_at hl 1 rfl) ?_
  refine lv_iconst (v := 4) hx hb dX11_member_2 (by decide) ?_
  refine lv_iload_n hx hb dX11_member_3 rfl (lv_at hl 2 rfl) ?_
  refine lv_iload_n hx hb dX11_member_4 rfl (lv_at hl 3 rfl) ?_
  have hPc := hP.sub (ws' := [(ax, .inr (0, [.ref xt, .ref xp, .ref xs, .ref xl, .ref xb, .ref xk, .ref xm, .ref xq, .ref xg, .ref xf, .ref xe, .int 49])), (xb, .inl (dA 6, 3, .inr (.inr (.inr (.inr fb)))))]) [0, 1] rfl
  have hDc := hD.sub (ws' := [(ax, .inr (0, [.ref xt, .ref xp, .ref xs, .ref xl, .ref xb, .ref xk, .ref xm, .ref xq, .ref xg, .ref xf, .ref xe, .int 49])), (xb, .inl (dA 6, 3, .inr (.inr (.inr (.inr fb)))))]) [0, 1] (by decide) rfl
  have hFc := va_free (wc := [(ax, .inr (0, [.ref xt, .ref xp, .ref xs, .ref xl, .ref xb, .ref xk, .ref xm, .ref xq, .ref xg, .ref xf, .ref xe, .int 49])), (xb, .inl (dA 6, 3, .inr (.inr (.inr (.inr fb)))))]) hD hS hA [0, 1] rfl
  refine zx_call (E0 := "java/lang/IllegalArgumentException") (vx_runV (As := [.int (nI i), .int 4, .int y0, .int y0]) (rest := []) ⟨hx, hb, hml, hown, hw⟩ (c_makeOfTwo_same l D dA dZ _ hfl ax xt xp xs xl xb xk xm xq xg xf xe i fb bk b1 b2 b3 b4 hd 4 y0 hi hf) (z_cwV 4 hw mw_756 mw_758 ms_15 mw_1 mw_759 rfl rfl (by decide +kernel) ⟨Nat.le_of_ble_eq_true rfl, Nat.le_of_ble_eq_true rfl⟩) (zPreV hPc hK hDc hT hE hS hFc (va_recv hK hP (ci := 0) (q0 := 0) rfl rfl)) rfl rfl hl.1 rfl (lv_room (Nat.le_of_ble_eq_true rfl)) dX11_member_5 ⟨Nat.le_of_ble_eq_true rfl, Nat.le_of_ble_eq_true rfl⟩) hS (fun q _ h => hFc q h) hFc (fun ce q9 H1 locs hz1 hk1 hS hce hcv hcl => ?_)
  exact vx_out (fun x hx => (hno x hx).elim) hlocks hce hcv hcl (fun t ht ha => zX_at hS ht) hS.2.2 (Nat.le_of_ble_eq_true rfl) (Nat.le_of_ble_eq_true rfl)
set_option maxHeartbeats 4000000 in
set_option maxRecDepth 100000 in
/-- member on a fresh object: dead -/
theorem c_member_dead (l : Launch) (D : va_G) (dA : Nat → ClassId) (dZ : Nat → Nat) (sz : Nat) (hfl : l.stackTraces = false) (ax : Nat) (xt : Nat) (xp : Nat) (xs : Nat) (xl : Nat) (xb : Nat) (xk : Nat) (xm : Nat) (xq : Nat) (xg : Nat) (xf : Nat) (xe : Nat) (i : Nat) (fb : Nat → Option Nat) (bk : Nat) (b1 : Nat) (b2 : Nat) (b3 : Nat) (b4 : Nat) (hd : Int32) (bl : Nat) (no : Nat) (ro : Nat) (y0 : Int32) (y1 : Int32) (hi : i < 3) (hf : fb i = some bk) (hne : ¬ y0 = y1) : vx_Met l yX11_member (wz yX11_member cX11_member 4 (some .int)) ({ frames := 14, cells := 1, slots := 6, locals := 400 } : Room) (va_Pc [.ref ax, .int (nI i), .int y0, .int y1] (zP D dA dZ [(ax, .inr (0, [.ref xt, .ref xp, .ref xs, .ref xl, .ref xb, .ref xk, .ref xm, .ref xq, .ref xg, .ref xf, .ref xe, .int 49])), (xb, .inl (dA 6, 3, .inr (.inr (.inr (.inr fb))))), (bk, .inr (5, [.int hd, .ref xl, .ref b1, .ref b2, .ref b3, .ref b4, .int 0, .int 0, .int 0])), (b3, .inl (dA 1, 250, .inl (fun _ => 0))), (xl, .inr (2, [.ref bl, .ref no, .ref ro, .int 0]))] sz)) zNo (zX "java/util/NoSuchElementException" (va_A [(ax, .inr (0, [.ref xt, .ref xp, .ref xs, .ref xl, .ref xb, .ref xk, .ref xm, .ref xq, .ref xg, .ref xf, .ref xe, .int 49])), (xb, .inl (dA 6, 3, .inr (.inr (.inr (.inr fb))))), (bk, .inr (5, [.int hd, .ref xl, .ref b1, .ref b2, .ref b3, .ref b4, .int 0, .int 0, .int 0])), (b3, .inl (dA 1, 250, .inl (fun _ => 0))), (xl, .inr (2, [.ref bl, .ref no, .ref ro, .int 0]))] sz)) 1 6 (va_A [(ax, .inr (0, [.ref xt, .ref xp, .ref xs, .ref xl, .ref xb, .ref xk, .ref xm, .ref xq, .ref xg, .ref xf, .ref xe, .int 49])), (xb, .inl (dA 6, 3, .inr (.inr (.inr (.inr fb))))), (bk, .inr (5, [.int hd, .ref xl, .ref b1, .ref b2, .ref b3, .ref b4, .int 0, .int 0, .int 0])), (b3, .inl (dA 1, 250, .inl (fun _ => 0))), (xl, .inr (2, [.ref bl, .ref no, .ref ro, .int 0]))] sz) := by
  refine vx_ofW (cc := cX11_member) (maxL := 4) (ret := (some .int)) (by decide) rfl ?_
  intro p e s m args below meth c s₁ B hml hno hv
  obtain ⟨rfl, hsz, hP, hK, hD0, hT, hE⟩ := hv
  have hx := B.exec
  have hb := B.bytes
  have hr := B.returns
  have hw := wz_hw (atoms_spec (ws := wz yX11_member cX11_member 4 (some .int)) B.pre)
  have hown : s.vm.findClass "KindredBooks" = some m.cls := findClass_of_methodNamed B.named
  have hlocks := B.notSynchronized
  have hn := hT.1.use (args := ([.ref ax, .int (nI i), .int y0, .int y1] : List Value).toArray)
  subst hsz
  have hD := hD0.self (sz := s.heap.size)
  generalize hAe : va_A [(ax, .inr (0, [.ref xt, .ref xp, .ref xs, .ref xl, .ref xb, .ref xk, .ref xm, .ref xq, .ref xg, .ref xf, .ref xe, .int 49])), (xb, .inl (dA 6, 3, .inr (.inr (.inr (.inr fb))))), (bk, .inr (5, [.int hd, .ref xl, .ref b1, .ref b2, .ref b3, .ref b4, .int 0, .int 0, .int 0])), (b3, .inl (dA 1, 250, .inl (fun _ => 0))), (xl, .inr (2, [.ref bl, .ref no, .ref ro, .int 0]))] s.heap.size = A at hD hE ⊢
  have hA : ∀ q : Nat, s.heap.size ≤ q → A q := fun q h => by rw [← hAe]; exact Or.inr h
  have hS : va_S A s.heap s.heap [] := va_S.rf
  replace hP : va_P D zcl [(ax, .inr (0, [.ref xt, .ref xp, .ref xs, .ref xl, .ref xb, .ref xk, .ref xm, .ref xq, .ref xg, .ref xf, .ref xe, .int 49])), (xb, .inl (dA 6, 3, .inr (.inr (.inr (.inr fb))))), (bk, .inr (5, [.int hd, .ref xl, .ref b1, .ref b2, .ref b3, .ref b4, .int 0, .int 0, .int 0])), (b3, .inl (dA 1, 250, .inl (fun _ => 0))), (xl, .inr (2, [.ref bl, .ref no, .ref ro, .int 0]))] s.heap := hP
  have hl := lv_entry ([.ref ax, .int (nI i), .int y0, .int y1]) (n := 4) (Nat.le_of_ble_eq_true rfl)
  rw [lg_entry_eq]
  generalize (lg_sl ([.ref ax, .int (nI i), .int y0, .int y1]) ++ List.replicate (4 - (lg_sl ([.ref ax, .int (nI i), .int y0, .int y1])).length) Slot.unset).toArray = ls at hl ⊢
  replace hl : lv_has ls 4 [(0, .ref ax), (1, .int (nI i)), (2, .int y0), (3, .int y1)] := hl
  refine lv_aload_n hx hb dX11_member_0 rfl (lv_at hl 0 rfl) ?_
  refine lv_iload_n hx hb dX11_member_1 rfl (lv_at hl 1 rfl) ?_
  refine lv_iconst (v := 4) hx hb dX11_member_2 (by decide) ?_
  refine lv_iload_n hx hb dX11_member_3 rfl (lv_at hl 2 rfl) ?_
  refine lv_iload_n hx hb dX11_member_4 rfl (lv_at hl 3 rfl) ?_
  have hPc := hP.sub (ws' := [(ax, .inr (0, [.ref xt, .ref xp, .ref xs, .ref xl, .ref xb, .ref xk, .ref xm, .ref xq, .ref xg, .ref xf, .ref xe, .int 49])), (xb, .inl (dA 6, 3, .inr (.inr (.inr (.inr fb))))), (bk, .inr (5, [.int hd, .ref xl, .ref b1, .ref b2, .ref b3, .ref b4, .int 0, .int 0, .int 0])), (b3, .inl (dA 1, 250, .inl (fun _ => 0))), (xl, .inr (2, [.ref bl, .ref no, .ref ro, .int 0]))]) [0, 1, 2, 3, 4] rfl
  have hDc := hD.sub (ws' := [(ax, .inr (0, [.ref xt, .ref xp, .ref xs, .ref xl, .ref xb, .ref xk, .ref xm, .ref xq, .ref xg, .ref xf, .ref xe, .int 49])), (xb, .inl (dA 6, 3, .inr (.inr (.inr (.inr fb))))), (bk, .inr (5, [.int hd, .ref xl, .ref b1, .ref b2, .ref b3, .ref b4, .int 0, .int 0, .int 0])), (b3, .inl (dA 1, 250, .inl (fun _ => 0))), (xl, .inr (2, [.ref bl, .ref no, .ref ro, .int 0]))]) [0, 1, 2, 3, 4] (by decide) rfl
  have hFc := va_free (wc := [(ax, .inr (0, [.ref xt, .ref xp, .ref xs, .ref xl, .ref xb, .ref xk, .ref xm, .ref xq, .ref xg, .ref xf, .ref xe, .int 49])), (xb, .inl (dA 6, 3, .inr (.inr (.inr (.inr fb))))), (bk, .inr (5, [.int hd, .ref xl, .ref b1, .ref b2, .ref b3, .ref b4, .int 0, .int 0, .int 0])), (b3, .inl (dA 1, 250, .inl (fun _ => 0))), (xl, .inr (2, [.ref bl, .ref no, .ref ro, .int 0]))]) hD hS hA [0, 1, 2, 3, 4] rfl
  refine zx_call (E0 := "java/util/NoSuchElementException") (vx_runV (As := [.int (nI i), .int 4, .int y0, .int y1]) (rest := []) ⟨hx, hb, hml, hown, hw⟩ (c_makeOfTwo_dead l D dA dZ _ hfl ax xt xp xs xl xb xk xm xq xg xf xe i fb bk b1 b2 b3 b4 hd bl no ro 4 y0 y1 hi hf hne) (z_cwV 4 hw mw_756 mw_758 ms_15 mw_1 mw_759 rfl rfl (by decide +kernel) ⟨Nat.le_of_ble_eq_true rfl, Nat.le_of_ble_eq_true rfl⟩) (zPreV hPc hK hDc hT hE hS hFc (va_recv hK hP (ci := 0) (q0 := 0) rfl rfl)) rfl rfl hl.1 rfl (lv_room (Nat.le_of_ble_eq_true rfl)) dX11_member_5 ⟨Nat.le_of_ble_eq_true rfl, Nat.le_of_ble_eq_true rfl⟩) hS (fun q _ h => hFc q h) hFc (fun ce q9 H1 locs hz1 hk1 hS hce hcv hcl => ?_)
  exact vx_out (fun x hx => (hno x hx).elim) hlocks hce hcv hcl (fun t ht ha => zX_at hS ht) hS.2.2 (Nat.le_of_ble_eq_true rfl) (Nat.le_of_ble_eq_true rfl)
set_option maxHeartbeats 4000000 in
set_option maxRecDepth 100000 in
/-- line on a fresh object: kind -/
theorem c_line_kind (l : Launch) (D : va_G) (dA : Nat → ClassId) (dZ : Nat → Nat) (sz : Nat) (hfl : l.stackTraces = false) (ax : Nat) (xt : Nat) (xp : Nat) (xs : Nat) (xl : Nat) (xb : Nat) (xk : Nat) (xm : Nat) (xq : Nat) (xg : Nat) (xf : Nat) (xe : Nat) (i : Nat) (fb : Nat → Option Nat) (bk : Nat) (b1 : Nat) (b2 : Nat) (b3 : Nat) (b4 : Nat) (hd : Int32) (y0 : Int32) (y1 : Int32) (hi : i < 3) (hf : fb i = some bk) (hz : zbadk y1) : vx_Met l yX11_line (wz yX11_line cX11_line 6 (some .int)) ({ frames := 14, cells := 1, slots := 6, locals := 400 } : Room) (va_Pc [.ref ax, .int (nI i), .int y0, .int y1] (zP D dA dZ [(ax, .inr (0, [.ref xt, .ref xp, .ref xs, .ref xl, .ref xb, .ref xk, .ref xm, .ref xq, .ref xg, .ref xf, .ref xe, .int 49])), (xb, .inl (dA 6, 3, .inr (.inr (.inr (.inr fb)))))] sz)) zNo (zX "java/lang/IllegalArgumentException" (va_A [(ax, .inr (0, [.ref xt, .ref xp, .ref xs, .ref xl, .ref xb, .ref xk, .ref xm, .ref xq, .ref xg, .ref xf, .ref xe, .int 49])), (xb, .inl (dA 6, 3, .inr (.inr (.inr (.inr fb)))))] sz)) 1 6 (va_A [(ax, .inr (0, [.ref xt, .ref xp, .ref xs, .ref xl, .ref xb, .ref xk, .ref xm, .ref xq, .ref xg, .ref xf, .ref xe, .int 49])), (xb, .inl (dA 6, 3, .inr (.inr (.inr (.inr fb)))))] sz) := by
  refine vx_ofW (cc := cX11_line) (maxL := 6) (ret := (some .int)) (by decide) rfl ?_
  intro p e s m args below meth c s₁ B hml hno hv
  obtain ⟨rfl, hsz, hP, hK, hD0, hT, hE⟩ := hv
  have hx := B.exec
  have hb := B.bytes
  have hr := B.returns
  have hw := wz_hw (atoms_spec (ws := wz yX11_line cX11_line 6 (some .int)) B.pre)
  have hown : s.vm.findClass "KindredBooks" = some m.cls := findClass_of_methodNamed B.named
  have hlocks := B.notSynchronized
  have hn := hT.1.use (args := ([.ref ax, .int (nI i), .int y0, .int y1] : List Value).toArray)
  subst hsz
  have hD := hD0.self (sz := s.heap.size)
  generalize hAe : va_A [(ax, .inr (0, [.ref xt, .ref xp, .ref xs, .ref xl, .ref xb, .ref xk, .ref xm, .ref xq, .ref xg, .ref xf, .ref xe, .int 49])), (xb, .inl (dA 6, 3, .inr (.inr (.inr (.inr fb)))))] s.heap.size = A at hD hE ⊢
  have hA : ∀ q : Nat, s.heap.size ≤ q → A q := fun q h => by rw [← hAe]; exact Or.inr h
  have hS : va_S A s.heap s.heap [] := va_S.rf
  replace hP : va_P D zcl [(ax, .inr (0, [.ref xt, .ref xp, .ref xs, .ref xl, .ref xb, .ref xk, .ref xm, .ref xq, .ref xg, .ref xf, .ref xe, .int 49])), (xb, .inl (dA 6, 3, .inr (.inr (.inr (.inr fb)))))] s.heap := hP
  have hl := lv_entry ([.ref ax, .int (nI i), .int y0, .int y1]) (n := 6) (Nat.le_of_ble_eq_true rfl)
  rw [lg_entry_eq]
  generalize (lg_sl ([.ref ax, .int (nI i), .int y0, .int y1]) ++ List.replicate (6 - (lg_sl ([.ref ax, .int (nI i), .int y0, .int y1])).length) Slot.unset).toArray = ls at hl ⊢
  replace hl : lv_has ls 6 [(0, .ref ax), (1, .int (nI i)), (2, .int y0), (3, .int y1)] := hl
  refine lv_aload_n hx hb dX11_line_0 rfl (lv_at hl 0 rfl) ?_
  refine lv_iload_n hx hb dX11_line_1 rfl (lv_at hl 1 rfl) ?_
  have hPc := hP.sub (ws' := [(ax, .inr (0, [.ref xt, .ref xp, .ref xs, .ref xl, .ref xb, .ref xk, .ref xm, .ref xq, .ref xg, .ref xf, .ref xe, .int 49])), (xb, .inl (dA 6, 3, .inr (.inr (.inr (.inr fb)))))]) [0, 1] rfl
  have hDc := hD.sub (ws' := [(ax, .inr (0, [.ref xt, .ref xp, .ref xs, .ref xl, .ref xb, .ref xk, .ref xm, .ref xq, .ref xg, .ref xf, .ref xe, .int 49])), (xb, .inl (dA 6, 3, .inr (.inr (.inr (.inr fb)))))]) [0, 1] (by decide) rfl
  have hFc := va_free (wc := [(ax, .inr (0, [.ref xt, .ref xp, .ref xs, .ref xl, .ref xb, .ref xk, .ref xm, .ref xq, .ref xg, .ref xf, .ref xe, .int 49])), (xb, .inl (dA 6, 3, .inr (.inr (.inr (.inr fb)))))]) hD hS hA [0, 1] rfl
  refine va_callq (va_runV (As := [.int (nI i)]) (rest := []) ⟨hx, hb, hml, hown, hw⟩ (c_bookOf l D dA dZ _ ax xt xp xs xl xb xk xm xq xg xf xe i fb bk hi hf) (z_cwV 1 hw mw_603 mw_605 ms_3 mw_1 mw_606 rfl rfl (by decide +kernel) ⟨Nat.le_of_ble_eq_true rfl, Nat.le_of_ble_eq_true rfl⟩) (zPreV hPc hK hDc hT hE hS hFc (va_recv hK hP (ci := 0) (q0 := 0) rfl rfl)) rfl rfl hl.1 rfl (lv_room (Nat.le_of_ble_eq_true rfl)) dX11_line_2 ⟨Nat.le_of_ble_eq_true rfl, Nat.le_of_ble_eq_true rfl⟩) hS (fun q _ h => hFc q h) hFc (fun r_1 u t H1 locs ht hvm hpo hB hz1 hk1 hS => ?_)
  obtain ⟨hP1, hD1⟩ := hB
  rw [ht] at hP1
  obtain ⟨hP, hD⟩ := va_join (wr := []) (w1 := [(ax, .inr (0, [.ref xt, .ref xp, .ref xs, .ref xl, .ref xb, .ref xk, .ref xm, .ref xq, .ref xg, .ref xf, .ref xe, .int 49])), (xb, .inl (dA 6, 3, .inr (.inr (.inr (.inr fb)))))]) hP hD [0, 1] [] rfl rfl (by decide) (by decide) hk1 hFc hP1 hD1
  generalize H1 = H at hP hS ⊢
  have hP : va_P D zcl [(ax, .inr (0, [.ref xt, .ref xp, .ref xs, .ref xl, .ref xb, .ref xk, .ref xm, .ref xq, .ref xg, .ref xf, .ref xe, .int 49])), (xb, .inl (dA 6, 3, .inr (.inr (.inr (.inr fb)))))] H := hP
  have hD : va_D A [(ax, .inr (0, [.ref xt, .ref xp, .ref xs, .ref xl, .ref xb, .ref xk, .ref xm, .ref xq, .ref xg, .ref xf, .ref xe, .int 49])), (xb, .inl (dA 6, 3, .inr (.inr (.inr (.inr fb)))))] := hD
  obtain rfl : r_1 = (some bk) := hpo
  refine lv_astore (lv' := [(4, .ref bk), (0, .ref ax), (1, .int (nI i)), (2, .int y0), (3, .int y1)]) hx hb dX11_line_5 hl (by decide) rfl (fun ls hl => ?_)
  refine lv_aload_n hx hb dX11_line_7 rfl (lv_at hl 1 rfl) ?_
  refine lv_iload_n hx hb dX11_line_8 rfl (lv_at hl 4 rfl) ?_
  have hPc := hP.sub (ws' := []) [] rfl
  have hDc := hD.sub (ws' := []) [] (by decide) rfl
  have hFc := va_free (wc := []) hD hS hA [] rfl
  refine zx_call (E0 := "java/lang/IllegalArgumentException") (vx_runV (As := [.int y1]) (rest := []) ⟨hx, hb, hml, hown, hw⟩ (c_checkKind_no l D dA dZ _ hfl ax y1 hz) (z_cwV 1 hw mw_690 mw_692 ms_11 mw_1 mw_693 rfl rfl (by decide +kernel) ⟨Nat.le_of_ble_eq_true rfl, Nat.le_of_ble_eq_true rfl⟩) (zPreV hPc hK hDc hT hE hS hFc (va_recv hK hP (ci := 0) (q0 := 0) rfl rfl)) rfl rfl hl.1 rfl (lv_room (Nat.le_of_ble_eq_true rfl)) dX11_line_9 ⟨Nat.le_of_ble_eq_true rfl, Nat.le_of_ble_eq_true rfl⟩) hS (fun q _ h => hFc q h) hFc (fun ce q9 H1 locs hz1 hk1 hS hce hcv hcl => ?_)
  exact vx_out (fun x hx => (hno x hx).elim) hlocks hce hcv hcl (fun t ht ha => zX_at hS ht) hS.2.2 (Nat.le_of_ble_eq_true rfl) (Nat.le_of_ble_eq_true rfl)
set_option maxHeartbeats 4000000 in
set_option maxRecDepth 100000 in
/-- line on a fresh object: dead -/
theorem c_line_dead (l : Launch) (D : va_G) (dA : Nat → ClassId) (dZ : Nat → Nat) (sz : Nat) (hfl : l.stackTraces = false) (ax : Nat) (xt : Nat) (xp : Nat) (xs : Nat) (xl : Nat) (xb : Nat) (xk : Nat) (xm : Nat) (xq : Nat) (xg : Nat) (xf : Nat) (xe : Nat) (i : Nat) (fb : Nat → Option Nat) (bk : Nat) (b1 : Nat) (b2 : Nat) (b3 : Nat) (b4 : Nat) (hd : Int32) (bl : Nat) (no : Nat) (ro : Nat) (y0 : Int32) (y1 : Int32) (hi : i < 3) (hf : fb i = some bk) (hz : zokk y1) : vx_Met l yX11_line (wz yX11_line cX11_line 6 (some .int)) ({ frames := 14, cells := 1, slots := 6, locals := 400 } : Room) (va_Pc [.ref ax, .int (nI i), .int y0, .int y1] (zP D dA dZ [(ax, .inr (0, [.ref xt, .ref xp, .ref xs, .ref xl, .ref xb, .ref xk, .ref xm, .ref xq, .ref xg, .ref xf, .ref xe, .int 49])), (xb, .inl (dA 6, 3, .inr (.inr (.inr (.inr fb))))), (bk, .inr (5, [.int hd, .ref xl, .ref b1, .ref b2, .ref b3, .ref b4, .int 0, .int 0, .int 0])), (b3, .inl (dA 1, 250, .inl (fun _ => 0))), (xl, .inr (2, [.ref bl, .ref no, .ref ro, .int 0]))] sz)) zNo (zX "java/util/NoSuchElementException" (va_A [(ax, .inr (0, [.ref xt, .ref xp, .ref xs, .ref xl, .ref xb, .ref xk, .ref xm, .ref xq, .ref xg, .ref xf, .ref xe, .int 49])), (xb, .inl (dA 6, 3, .inr (.inr (.inr (.inr fb))))), (bk, .inr (5, [.int hd, .ref xl, .ref b1, .ref b2, .ref b3, .ref b4, .int 0, .int 0, .int 0])), (b3, .inl (dA 1, 250, .inl (fun _ => 0))), (xl, .inr (2, [.ref bl, .ref no, .ref ro, .int 0]))] sz)) 1 6 (va_A [(ax, .inr (0, [.ref xt, .ref xp, .ref xs, .ref xl, .ref xb, .ref xk, .ref xm, .ref xq, .ref xg, .ref xf, .ref xe, .int 49])), (xb, .inl (dA 6, 3, .inr (.inr (.inr (.inr fb))))), (bk, .inr (5, [.int hd, .ref xl, .ref b1, .ref b2, .ref b3, .ref b4, .int 0, .int 0, .int 0])), (b3, .inl (dA 1, 250, .inl (fun _ => 0))), (xl, .inr (2, [.ref bl, .ref no, .ref ro, .int 0]))] sz) := by
  refine vx_ofW (cc := cX11_line) (maxL := 6) (ret := (some .int)) (by decide) rfl ?_
  intro p e s m args below meth c s₁ B hml hno hv
  obtain ⟨rfl, hsz, hP, hK, hD0, hT, hE⟩ := hv
  have hx := B.exec
  have hb := B.bytes
  have hr := B.returns
  have hw := wz_hw (atoms_spec (ws := wz yX11_line cX11_line 6 (some .int)) B.pre)
  have hown : s.vm.findClass "KindredBooks" = some m.cls := findClass_of_methodNamed B.named
  have hlocks := B.notSynchronized
  have hn := hT.1.use (args := ([.ref ax, .int (nI i), .int y0, .int y1] : List Value).toArray)
  subst hsz
  have hD := hD0.self (sz := s.heap.size)
  generalize hAe : va_A [(ax, .inr (0, [.ref xt, .ref xp, .ref xs, .ref xl, .ref xb, .ref xk, .ref xm, .ref xq, .ref xg, .ref xf, .ref xe, .int 49])), (xb, .inl (dA 6, 3, .inr (.inr (.inr (.inr fb))))), (bk, .inr (5, [.int hd, .ref xl, .ref b1, .ref b2, .ref b3, .ref b4, .int 0, .int 0, .int 0])), (b3, .inl (dA 1, 250, .inl (fun _ => 0))), (xl, .inr (2, [.ref bl, .ref no, .ref ro, .int 0]))] s.heap.size = A at hD hE ⊢
  have hA : ∀ q : Nat, s.heap.size ≤ q → A q := fun q h => by rw [← hAe]; exact Or.inr h
  have hS : va_S A s.heap s.heap [] := va_S.rf
  replace hP : va_P D zcl [(ax, .inr (0, [.ref xt, .ref xp, .ref xs, .ref xl, .ref xb, .ref xk, .ref xm, .ref xq, .ref xg, .ref xf, .ref xe, .int 49])), (xb, .inl (dA 6, 3, .inr (.inr (.inr (.inr fb))))), (bk, .inr (5, [.int hd, .ref xl, .ref b1, .ref b2, .ref b3, .ref b4, .int 0, .int 0, .int 0])), (b3, .inl (dA 1, 250, .inl (fun _ => 0))), (xl, .inr (2, [.ref bl, .ref no, .ref ro, .int 0]))] s.heap := hP
  have hl := lv_entry ([.ref ax, .int (nI i), .int y0, .int y1]) (n := 6) (Nat.le_of_ble_eq_true rfl)
  rw [lg_entry_eq]
  generalize (lg_sl ([.ref ax, .int (nI i), .int y0, .int y1]) ++ List.replicate (6 - (lg_sl ([.ref ax, .int (nI i), .int y0, .int y1])).length) Slot.unset).toArray = ls at hl ⊢
  replace hl : lv_has ls 6 [(0, .ref ax), (1, .int (nI i)), (2, .int y0), (3, .int y1)] := hl
  refine lv_aload_n hx hb dX11_line_0 rfl (lv_at hl 0 rfl) ?_
  refine lv_iload_n hx hb dX11_line_1 rfl (lv_at hl 1 rfl) ?_
  have hPc := hP.sub (ws' := [(ax, .inr (0, [.ref xt, .ref xp, .ref xs, .ref xl, .ref xb, .ref xk, .ref xm, .ref xq, .ref xg, .ref xf, .ref xe, .int 49])), (xb, .inl (dA 6, 3, .inr (.inr (.inr (.inr fb)))))]) [0, 1] rfl
  have hDc := hD.sub (ws' := [(ax, .inr (0, [.ref xt, .ref xp, .ref xs, .ref xl, .ref xb, .ref xk, .ref xm, .ref xq, .ref xg, .ref xf, .ref xe, .int 49])), (xb, .inl (dA 6, 3, .inr (.inr (.inr (.inr fb)))))]) [0, 1] (by decide) rfl
  have hFc := va_free (wc := [(ax, .inr (0, [.ref xt, .ref xp, .ref xs, .ref xl, .ref xb, .ref xk, .ref xm, .ref xq, .ref xg, .ref xf, .ref xe, .int 49])), (xb, .inl (dA 6, 3, .inr (.inr (.inr (.inr fb)))))]) hD hS hA [0, 1] rfl
  refine va_callq (va_runV (As := [.int (nI i)]) (rest := []) ⟨hx, hb, hml, hown, hw⟩ (c_bookOf l D dA dZ _ ax xt xp xs xl xb xk xm xq xg xf xe i fb bk hi hf) (z_cwV 1 hw mw_603 mw_605 ms_3 mw_1 mw_606 rfl rfl (by decide +kernel) ⟨Nat.le_of_ble_eq_true rfl, Nat.le_of_ble_eq_true rfl⟩) (zPreV hPc hK hDc hT hE hS hFc (va_recv hK hP (ci := 0) (q0 := 0) rfl rfl)) rfl rfl hl.1 rfl (lv_room (Nat.le_of_ble_eq_true rfl)) dX11_line_2 ⟨Nat.le_of_ble_eq_true rfl, Nat.le_of_ble_eq_true rfl⟩) hS (fun q _ h => hFc q h) hFc (fun r_1 u t H1 locs ht hvm hpo hB hz1 hk1 hS => ?_)
  obtain ⟨hP1, hD1⟩ := hB
  rw [ht] at hP1
  obtain ⟨hP, hD⟩ := va_join (wr := [(bk, .inr (5, [.int hd, .ref xl, .ref b1, .ref b2, .ref b3, .ref b4, .int 0, .int 0, .int 0])), (b3, .inl (dA 1, 250, .inl (fun _ => 0))), (xl, .inr (2, [.ref bl, .ref no, .ref ro, .int 0]))]) (w1 := [(ax, .inr (0, [.ref xt, .ref xp, .ref xs, .ref xl, .ref xb, .ref xk, .ref xm, .ref xq, .ref xg, .ref xf, .ref xe, .int 49])), (xb, .inl (dA 6, 3, .inr (.inr (.inr (.inr fb)))))]) hP hD [0, 1] [2, 3, 4] rfl rfl (by decide) (by decide) hk1 hFc hP1 hD1
  generalize H1 = H at hP hS ⊢
  have hP : va_P D zcl [(bk, .inr (5, [.int hd, .ref xl, .ref b1, .ref b2, .ref b3, .ref b4, .int 0, .int 0, .int 0])), (b3, .inl (dA 1, 250, .inl (fun _ => 0))), (xl, .inr (2, [.ref bl, .ref no, .ref ro, .int 0])), (ax, .inr (0, [.ref xt, .ref xp, .ref xs, .ref xl, .ref xb, .ref xk, .ref xm, .ref xq, .ref xg, .ref xf, .ref xe, .int 49])), (xb, .inl (dA 6, 3, .inr (.inr (.inr (.inr fb)))))] H := hP
  have hD : va_D A [(bk, .inr (5, [.int hd, .ref xl, .ref b1, .ref b2, .ref b3, .ref b4, .int 0, .int 0, .int 0])), (b3, .inl (dA 1, 250, .inl (fun _ => 0))), (xl, .inr (2, [.ref bl, .ref no, .ref ro, .int 0])), (ax, .inr (0, [.ref xt, .ref xp, .ref xs, .ref xl, .ref xb, .ref xk, .ref xm, .ref xq, .ref xg, .ref xf, .ref xe, .int 49])), (xb, .inl (dA 6, 3, .inr (.inr (.inr (.inr fb)))))] := hD
  obtain rfl : r_1 = (some bk) := hpo
  refine lv_astore (lv' := [(4, .ref bk), (0, .ref ax), (1, .int (nI i)), (2, .int y0), (3, .int y1)]) hx hb dX11_line_5 hl (by decide) rfl (fun ls hl => ?_)
  refine lv_aload_n hx hb dX11_line_7 rfl (lv_at hl 1 rfl) ?_
  refine lv_iload_n hx hb dX11_line_8 rfl (lv_at hl 4 rfl) ?_
  have hPc := hP.sub (ws' := []) [] rfl
  have hDc := hD.sub (ws' := []) [] (by decide) rfl
  have hFc := va_free (wc := []) hD hS hA [] rfl
  refine va_callv (va_runV (As := [.int y1]) (rest := []) ⟨hx, hb, hml, hown, hw⟩ (c_checkKind_ok l D dA dZ _ ax y1 hz) (z_cwV 1 hw mw_690 mw_692 ms_11 mw_1 mw_693 rfl rfl (by decide +kernel) ⟨Nat.le_of_ble_eq_true rfl, Nat.le_of_ble_eq_true rfl⟩) (zPreV hPc hK hDc hT hE hS hFc (va_recv hK hP (ci := 0) (q0 := 3) rfl rfl)) rfl rfl hl.1 rfl (lv_room (Nat.le_of_ble_eq_true rfl)) dX11_line_9 ⟨Nat.le_of_ble_eq_true rfl, Nat.le_of_ble_eq_true rfl⟩) hS (fun q _ h => hFc q h) hFc (fun u t H1 locs ht hvm hpo hB hz1 hk1 hS => ?_)
  obtain ⟨hP1, hD1⟩ := hB
  rw [ht] at hP1
  obtain ⟨hP, hD⟩ := va_join (wr := [(bk, .inr (5, [.int hd, .ref xl, .ref b1, .ref b2, .ref b3, .ref b4, .int 0, .int 0, .int 0])), (b3, .inl (dA 1, 250, .inl (fun _ => 0))), (xl, .inr (2, [.ref bl, .ref no, .ref ro, .int 0])), (ax, .inr (0, [.ref xt, .ref xp, .ref xs, .ref xl, .ref xb, .ref xk, .ref xm, .ref xq, .ref xg, .ref xf, .ref xe, .int 49])), (xb, .inl (dA 6, 3, .inr (.inr (.inr (.inr fb)))))]) (w1 := []) hP hD [] [0, 1, 2, 3, 4] rfl rfl (by decide) (by decide) hk1 hFc hP1 hD1
  generalize H1 = H at hP hS ⊢
  have hP : va_P D zcl [(bk, .inr (5, [.int hd, .ref xl, .ref b1, .ref b2, .ref b3, .ref b4, .int 0, .int 0, .int 0])), (b3, .inl (dA 1, 250, .inl (fun _ => 0))), (xl, .inr (2, [.ref bl, .ref no, .ref ro, .int 0])), (ax, .inr (0, [.ref xt, .ref xp, .ref xs, .ref xl, .ref xb, .ref xk, .ref xm, .ref xq, .ref xg, .ref xf, .ref xe, .int 49])), (xb, .inl (dA 6, 3, .inr (.inr (.inr (.inr fb)))))] H := hP
  have hD : va_D A [(bk, .inr (5, [.int hd, .ref xl, .ref b1, .ref b2, .ref b3, .ref b4, .int 0, .int 0, .int 0])), (b3, .inl (dA 1, 250, .inl (fun _ => 0))), (xl, .inr (2, [.ref bl, .ref no, .ref ro, .int 0])), (ax, .inr (0, [.ref xt, .ref xp, .ref xs, .ref xl, .ref xb, .ref xk, .ref xm, .ref xq, .ref xg, .ref xf, .ref xe, .int 49])), (xb, .inl (dA 6, 3, .inr (.inr (.inr (.inr fb)))))] := hD
  refine lv_aload_n hx hb dX11_line_12 rfl (lv_at hl 1 rfl) ?_
  refine lv_aload hx hb dX11_line_13 (lv_at hl 0 rfl) ?_
  refine lv_iload_n hx hb dX11_line_15 rfl (lv_at hl 3 rfl) ?_
  have hPc := hP.sub (ws' := [(bk, .inr (5, [.int hd, .ref xl, .ref b1, .ref b2, .ref b3, .ref b4, .int 0, .int 0, .int 0])), (b3, .inl (dA 1, 250, .inl (fun _ => 0)))]) [0, 1] rfl
  have hDc := hD.sub (ws' := [(bk, .inr (5, [.int hd, .ref xl, .ref b1, .ref b2, .ref b3, .ref b4, .int 0, .int 0, .int 0])), (b3, .inl (dA 1, 250, .inl (fun _ => 0)))]) [0, 1] (by decide) rfl
  have hFc := va_free (wc := [(bk, .inr (5, [.int hd, .ref xl, .ref b1, .ref b2, .ref b3, .ref b4, .int 0, .int 0, .int 0])), (b3, .inl (dA 1, 250, .inl (fun _ => 0)))]) hD hS hA [0, 1] rfl
  refine zx_call (E0 := "java/util/NoSuchElementException") (vx_runV (As := [.ref bk, .int y0]) (rest := []) ⟨hx, hb, hml, hown, hw⟩ (c_checkLive_no l D dA dZ _ hfl ax bk xl b1 b2 b3 b4 hd 0 y0) (z_cwV 2 hw mw_695 mw_697 ms_12 mw_1 mw_698 rfl rfl (by decide +kernel) ⟨Nat.le_of_ble_eq_true rfl, Nat.le_of_ble_eq_true rfl⟩) (zPreV hPc hK hDc hT hE hS hFc (va_recv hK hP (ci := 0) (q0 := 3) rfl rfl)) rfl rfl hl.1 rfl (lv_room (Nat.le_of_ble_eq_true rfl)) dX11_line_16 ⟨Nat.le_of_ble_eq_true rfl, Nat.le_of_ble_eq_true rfl⟩) hS (fun q _ h => hFc q h) hFc (fun ce q9 H1 locs hz1 hk1 hS hce hcv hcl => ?_)
  exact vx_out (fun x hx => (hno x hx).elim) hlocks hce hcv hcl (fun t ht ha => zX_at hS ht) hS.2.2 (Nat.le_of_ble_eq_true rfl) (Nat.le_of_ble_eq_true rfl)
set_option maxHeartbeats 4000000 in
set_option maxRecDepth 100000 in
/-- gone on a fresh object: dead -/
theorem c_gone_dead (l : Launch) (D : va_G) (dA : Nat → ClassId) (dZ : Nat → Nat) (sz : Nat) (hfl : l.stackTraces = false) (ax : Nat) (xt : Nat) (xp : Nat) (xs : Nat) (xl : Nat) (xb : Nat) (xk : Nat) (xm : Nat) (xq : Nat) (xg : Nat) (xf : Nat) (xe : Nat) (i : Nat) (fb : Nat → Option Nat) (bk : Nat) (b1 : Nat) (b2 : Nat) (b3 : Nat) (b4 : Nat) (hd : Int32) (bl : Nat) (no : Nat) (ro : Nat) (y0 : Int32) (hi : i < 3) (hf : fb i = some bk) : vx_Met l yX11_gone (wz yX11_gone cX11_gone 4 (some .int)) ({ frames := 14, cells := 1, slots := 6, locals := 400 } : Room) (va_Pc [.ref ax, .int (nI i), .int y0] (zP D dA dZ [(ax, .inr (0, [.ref xt, .ref xp, .ref xs, .ref xl, .ref xb, .ref xk, .ref xm, .ref xq, .ref xg, .ref xf, .ref xe, .int 49])), (xb, .inl (dA 6, 3, .inr (.inr (.inr (.inr fb))))), (bk, .inr (5, [.int hd, .ref xl, .ref b1, .ref b2, .ref b3, .ref b4, .int 0, .int 0, .int 0])), (b3, .inl (dA 1, 250, .inl (fun _ => 0))), (xl, .inr (2, [.ref bl, .ref no, .ref ro, .int 0]))] sz)) zNo (zX "java/util/NoSuchElementException" (va_A [(ax, .inr (0, [.ref xt, .ref xp, .ref xs, .ref xl, .ref xb, .ref xk, .ref xm, .ref xq, .ref xg, .ref xf, .ref xe, .int 49])), (xb, .inl (dA 6, 3, .inr (.inr (.inr (.inr fb))))), (bk, .inr (5, [.int hd, .ref xl, .ref b1, .ref b2, .ref b3, .ref b4, .int 0, .int 0, .int 0])), (b3, .inl (dA 1, 250, .inl (fun _ => 0))), (xl, .inr (2, [.ref bl, .ref no, .ref ro, .int 0]))] sz)) 1 6 (va_A [(ax, .inr (0, [.ref xt, .ref xp, .ref xs, .ref xl, .ref xb, .ref xk, .ref xm, .ref xq, .ref xg, .ref xf, .ref xe, .int 49])), (xb, .inl (dA 6, 3, .inr (.inr (.inr (.inr fb))))), (bk, .inr (5, [.int hd, .ref xl, .ref b1, .ref b2, .ref b3, .ref b4, .int 0, .int 0, .int 0])), (b3, .inl (dA 1, 250, .inl (fun _ => 0))), (xl, .inr (2, [.ref bl, .ref no, .ref ro, .int 0]))] sz) := by
  refine vx_ofW (cc := cX11_gone) (maxL := 4) (ret := (some .int)) (by decide) rfl ?_
  intro p e s m args below meth c s₁ B hml hno hv
  obtain ⟨rfl, hsz, hP, hK, hD0, hT, hE⟩ := hv
  have hx := B.exec
  have hb := B.bytes
  have hr := B.returns
  have hw := wz_hw (atoms_spec (ws := wz yX11_gone cX11_gone 4 (some .int)) B.pre)
  have hown : s.vm.findClass "KindredBooks" = some m.cls := findClass_of_methodNamed B.named
  have hlocks := B.notSynchronized
  have hn := hT.1.use (args := ([.ref ax, .int (nI i), .int y0] : List Value).toArray)
  subst hsz
  have hD := hD0.self (sz := s.heap.size)
  generalize hAe : va_A [(ax, .inr (0, [.ref xt, .ref xp, .ref xs, .ref xl, .ref xb, .ref xk, .ref xm, .ref xq, .ref xg, .ref xf, .ref xe, .int 49])), (xb, .inl (dA 6, 3, .inr (.inr (.inr (.inr fb))))), (bk, .inr (5, [.int hd, .ref xl, .ref b1, .ref b2, .ref b3, .ref b4, .int 0, .int 0, .int 0])), (b3, .inl (dA 1, 250, .inl (fun _ => 0))), (xl, .inr (2, [.ref bl, .ref no, .ref ro, .int 0]))] s.heap.size = A at hD hE ⊢
  have hA : ∀ q : Nat, s.heap.size ≤ q → A q := fun q h => by rw [← hAe]; exact Or.inr h
  have hS : va_S A s.heap s.heap [] := va_S.rf
  replace hP : va_P D zcl [(ax, .inr (0, [.ref xt, .ref xp, .ref xs, .ref xl, .ref xb, .ref xk, .ref xm, .ref xq, .ref xg, .ref xf, .ref xe, .int 49])), (xb, .inl (dA 6, 3, .inr (.inr (.inr (.inr fb))))), (bk, .inr (5, [.int hd, .ref xl, .ref b1, .ref b2, .ref b3, .ref b4, .int 0, .int 0, .int 0])), (b3, .inl (dA 1, 250, .inl (fun _ => 0))), (xl, .inr (2, [.ref bl, .ref no, .ref ro, .int 0]))] s.heap := hP
  have hl := lv_entry ([.ref ax, .int (nI i), .int y0]) (n := 4) (Nat.le_of_ble_eq_true rfl)
  rw [lg_entry_eq]
  generalize (lg_sl ([.ref ax, .int (nI i), .int y0]) ++ List.replicate (4 - (lg_sl ([.ref ax, .int (nI i), .int y0])).length) Slot.unset).toArray = ls at hl ⊢
  replace hl : lv_has ls 4 [(0, .ref ax), (1, .int (nI i)), (2, .int y0)] := hl
  refine lv_aload_n hx hb dX11_gone_0 rfl (lv_at hl 0 rfl) ?_
  refine lv_iload_n hx hb dX11_gone_1 rfl (lv_at hl 1 rfl) ?_
  have hPc := hP.sub (ws' := [(ax, .inr (0, [.ref xt, .ref xp, .ref xs, .ref xl, .ref xb, .ref xk, .ref xm, .ref xq, .ref xg, .ref xf, .ref xe, .int 49])), (xb, .inl (dA 6, 3, .inr (.inr (.inr (.inr fb)))))]) [0, 1] rfl
  have hDc := hD.sub (ws' := [(ax, .inr (0, [.ref xt, .ref xp, .ref xs, .ref xl, .ref xb, .ref xk, .ref xm, .ref xq, .ref xg, .ref xf, .ref xe, .int 49])), (xb, .inl (dA 6, 3, .inr (.inr (.inr (.inr fb)))))]) [0, 1] (by decide) rfl
  have hFc := va_free (wc := [(ax, .inr (0, [.ref xt, .ref xp, .ref xs, .ref xl, .ref xb, .ref xk, .ref xm, .ref xq, .ref xg, .ref xf, .ref xe, .int 49])), (xb, .inl (dA 6, 3, .inr (.inr (.inr (.inr fb)))))]) hD hS hA [0, 1] rfl
  refine va_callq (va_runV (As := [.int (nI i)]) (rest := []) ⟨hx, hb, hml, hown, hw⟩ (c_bookOf l D dA dZ _ ax xt xp xs xl xb xk xm xq xg xf xe i fb bk hi hf) (z_cwV 1 hw mw_603 mw_605 ms_3 mw_1 mw_606 rfl rfl (by decide +kernel) ⟨Nat.le_of_ble_eq_true rfl, Nat.le_of_ble_eq_true rfl⟩) (zPreV hPc hK hDc hT hE hS hFc (va_recv hK hP (ci := 0) (q0 := 0) rfl rfl)) rfl rfl hl.1 rfl (lv_room (Nat.le_of_ble_eq_true rfl)) dX11_gone_2 ⟨Nat.le_of_ble_eq_true rfl, Nat.le_of_ble_eq_true rfl⟩) hS (fun q _ h => hFc q h) hFc (fun r_1 u t H1 locs ht hvm hpo hB hz1 hk1 hS => ?_)
  obtain ⟨hP1, hD1⟩ := hB
  rw [ht] at hP1
  obtain ⟨hP, hD⟩ := va_join (wr := [(bk, .inr (5, [.int hd, .ref xl, .ref b1, .ref b2, .ref b3, .ref b4, .int 0, .int 0, .int 0])), (b3, .inl (dA 1, 250, .inl (fun _ => 0))), (xl, .inr (2, [.ref bl, .ref no, .ref ro, .int 0]))]) (w1 := [(ax, .inr (0, [.ref xt, .ref xp, .ref xs, .ref xl, .ref xb, .ref xk, .ref xm, .ref xq, .ref xg, .ref xf, .ref xe, .int 49])), (xb, .inl (dA 6, 3, .inr (.inr (.inr (.inr fb)))))]) hP hD [0, 1] [2, 3, 4] rfl rfl (by decide) (by decide) hk1 hFc hP1 hD1
  generalize H1 = H at hP hS ⊢
  have hP : va_P D zcl [(bk, .inr (5, [.int hd, .ref xl, .ref b1, .ref b2, .ref b3, .ref b4, .int 0, .int 0, .int 0])), (b3, .inl (dA 1, 250, .inl (fun _ => 0))), (xl, .inr (2, [.ref bl, .ref no, .ref ro, .int 0])), (ax, .inr (0, [.ref xt, .ref xp, .ref xs, .ref xl, .ref xb, .ref xk, .ref xm, .ref xq, .ref xg, .ref xf, .ref xe, .int 49])), (xb, .inl (dA 6, 3, .inr (.inr (.inr (.inr fb)))))] H := hP
  have hD : va_D A [(bk, .inr (5, [.int hd, .ref xl, .ref b1, .ref b2, .ref b3, .ref b4, .int 0, .int 0, .int 0])), (b3, .inl (dA 1, 250, .inl (fun _ => 0))), (xl, .inr (2, [.ref bl, .ref no, .ref ro, .int 0])), (ax, .inr (0, [.ref xt, .ref xp, .ref xs, .ref xl, .ref xb, .ref xk, .ref xm, .ref xq, .ref xg, .ref xf, .ref xe, .int 49])), (xb, .inl (dA 6, 3, .inr (.inr (.inr (.inr fb)))))] := hD
  obtain rfl : r_1 = (some bk) := hpo
  refine lv_astore_n (lv' := [(3, .ref bk), (0, .ref ax), (1, .int (nI i)), (2, .int y0)]) hx hb dX11_gone_5 rfl hl (by decide) rfl (fun ls hl => ?_)
  refine lv_aload_n hx hb dX11_gone_6 rfl (lv_at hl 1 rfl) ?_
  refine lv_aload_n hx hb dX11_gone_7 rfl (lv_at hl 0 rfl) ?_
  refine lv_iload_n hx hb dX11_gone_8 rfl (lv_at hl 3 rfl) ?_
  have hPc := hP.sub (ws' := [(bk, .inr (5, [.int hd, .ref xl, .ref b1, .ref b2, .ref b3, .ref b4, .int 0, .int 0, .int 0])), (b3, .inl (dA 1, 250, .inl (fun _ => 0)))]) [0, 1] rfl
  have hDc := hD.sub (ws' := [(bk, .inr (5, [.int hd, .ref xl, .ref b1, .ref b2, .ref b3, .ref b4, .int 0, .int 0, .int 0])), (b3, .inl (dA 1, 250, .inl (fun _ => 0)))]) [0, 1] (by decide) rfl
  have hFc := va_free (wc := [(bk, .inr (5, [.int hd, .ref xl, .ref b1, .ref b2, .ref b3, .ref b4, .int 0, .int 0, .int 0])), (b3, .inl (dA 1, 250, .inl (fun _ => 0)))]) hD hS hA [0, 1] rfl
  refine zx_call (E0 := "java/util/NoSuchElementException") (vx_runV (As := [.ref bk, .int y0]) (rest := []) ⟨hx, hb, hml, hown, hw⟩ (c_checkLive_no l D dA dZ _ hfl ax bk xl b1 b2 b3 b4 hd 0 y0) (z_cwV 2 hw mw_695 mw_697 ms_12 mw_1 mw_698 rfl rfl (by decide +kernel) ⟨Nat.le_of_ble_eq_true rfl, Nat.le_of_ble_eq_true rfl⟩) (zPreV hPc hK hDc hT hE hS hFc (va_recv hK hP (ci := 0) (q0 := 3) rfl rfl)) rfl rfl hl.1 rfl (lv_room (Nat.le_of_ble_eq_true rfl)) dX11_gone_9 ⟨Nat.le_of_ble_eq_true rfl, Nat.le_of_ble_eq_true rfl⟩) hS (fun q _ h => hFc q h) hFc (fun ce q9 H1 locs hz1 hk1 hS hce hcv hcl => ?_)
  exact vx_out (fun x hx => (hno x hx).elim) hlocks hce hcv hcl (fun t ht ha => zX_at hS ht) hS.2.2 (Nat.le_of_ble_eq_true rfl) (Nat.le_of_ble_eq_true rfl)
set_option maxHeartbeats 4000000 in
set_option maxRecDepth 100000 in
/-- back on a fresh object: none -/
theorem c_back_none (l : Launch) (D : va_G) (dA : Nat → ClassId) (dZ : Nat → Nat) (sz : Nat) (hfl : l.stackTraces = false) (ax : Nat) (xt : Nat) (xp : Nat) (xs : Nat) (xl : Nat) (xb : Nat) (xk : Nat) (xm : Nat) (xq : Nat) (xg : Nat) (xf : Nat) (xe : Nat) (i : Nat) (fb : Nat → Option Nat) (bk : Nat) (b1 : Nat) (b2 : Nat) (b3 : Nat) (b4 : Nat) (hd : Int32) (bl : Nat) (no : Nat) (ro : Nat) (y0 : Int32) (hi : i < 3) (hf : fb i = some bk) : vx_Met l yX11_back (wz yX11_back cX11_back 4 (some .int)) ({ frames := 14, cells := 1, slots := 6, locals := 400 } : Room) (va_Pc [.ref ax, .int (nI i), .int y0] (zP D dA dZ [(ax, .inr (0, [.ref xt, .ref xp, .ref xs, .ref xl, .ref xb, .ref xk, .ref xm, .ref xq, .ref xg, .ref xf, .ref xe, .int 49])), (xb, .inl (dA 6, 3, .inr (.inr (.inr (.inr fb))))), (bk, .inr (5, [.int hd, .ref xl, .ref b1, .ref b2, .ref b3, .ref b4, .int 0, .int 0, .int 0])), (b3, .inl (dA 1, 250, .inl (fun _ => 0))), (xl, .inr (2, [.ref bl, .ref no, .ref ro, .int 0]))] sz)) zNo (zX "java/lang/IndexOutOfBoundsException" (va_A [(ax, .inr (0, [.ref xt, .ref xp, .ref xs, .ref xl, .ref xb, .ref xk, .ref xm, .ref xq, .ref xg, .ref xf, .ref xe, .int 49])), (xb, .inl (dA 6, 3, .inr (.inr (.inr (.inr fb))))), (bk, .inr (5, [.int hd, .ref xl, .ref b1, .ref b2, .ref b3, .ref b4, .int 0, .int 0, .int 0])), (b3, .inl (dA 1, 250, .inl (fun _ => 0))), (xl, .inr (2, [.ref bl, .ref no, .ref ro, .int 0]))] sz)) 1 6 (va_A [(ax, .inr (0, [.ref xt, .ref xp, .ref xs, .ref xl, .ref xb, .ref xk, .ref xm, .ref xq, .ref xg, .ref xf, .ref xe, .int 49])), (xb, .inl (dA 6, 3, .inr (.inr (.inr (.inr fb))))), (bk, .inr (5, [.int hd, .ref xl, .ref b1, .ref b2, .ref b3, .ref b4, .int 0, .int 0, .int 0])), (b3, .inl (dA 1, 250, .inl (fun _ => 0))), (xl, .inr (2, [.ref bl, .ref no, .ref ro, .int 0]))] sz) := by
  refine vx_ofW (cc := cX11_back) (maxL := 4) (ret := (some .int)) (by decide) rfl ?_
  intro p e s m args below meth c s₁ B hml hno hv
  obtain ⟨rfl, hsz, hP, hK, hD0, hT, hE⟩ := hv
  have hx := B.exec
  have hb := B.bytes
  have hr := B.returns
  have hw := wz_hw (atoms_spec (ws := wz yX11_back cX11_back 4 (some .int)) B.pre)
  have hown : s.vm.findClass "KindredBooks" = some m.cls := findClass_of_methodNamed B.named
  have hlocks := B.notSynchronized
  have hn := hT.1.use (args := ([.ref ax, .int (nI i), .int y0] : List Value).toArray)
  subst hsz
  have hD := hD0.self (sz := s.heap.size)
  generalize hAe : va_A [(ax, .inr (0, [.ref xt, .ref xp, .ref xs, .ref xl, .ref xb, .ref xk, .ref xm, .ref xq, .ref xg, .ref xf, .ref xe, .int 49])), (xb, .inl (dA 6, 3, .inr (.inr (.inr (.inr fb))))), (bk, .inr (5, [.int hd, .ref xl, .ref b1, .ref b2, .ref b3, .ref b4, .int 0, .int 0, .int 0])), (b3, .inl (dA 1, 250, .inl (fun _ => 0))), (xl, .inr (2, [.ref bl, .ref no, .ref ro, .int 0]))] s.heap.size = A at hD hE ⊢
  have hA : ∀ q : Nat, s.heap.size ≤ q → A q := fun q h => by rw [← hAe]; exact Or.inr h
  have hS : va_S A s.heap s.heap [] := va_S.rf
  replace hP : va_P D zcl [(ax, .inr (0, [.ref xt, .ref xp, .ref xs, .ref xl, .ref xb, .ref xk, .ref xm, .ref xq, .ref xg, .ref xf, .ref xe, .int 49])), (xb, .inl (dA 6, 3, .inr (.inr (.inr (.inr fb))))), (bk, .inr (5, [.int hd, .ref xl, .ref b1, .ref b2, .ref b3, .ref b4, .int 0, .int 0, .int 0])), (b3, .inl (dA 1, 250, .inl (fun _ => 0))), (xl, .inr (2, [.ref bl, .ref no, .ref ro, .int 0]))] s.heap := hP
  have hl := lv_entry ([.ref ax, .int (nI i), .int y0]) (n := 4) (Nat.le_of_ble_eq_true rfl)
  rw [lg_entry_eq]
  generalize (lg_sl ([.ref ax, .int (nI i), .int y0]) ++ List.replicate (4 - (lg_sl ([.ref ax, .int (nI i), .int y0])).length) Slot.unset).toArray = ls at hl ⊢
  replace hl : lv_has ls 4 [(0, .ref ax), (1, .int (nI i)), (2, .int y0)] := hl
  refine lv_aload_n hx hb dX11_back_0 rfl (lv_at hl 0 rfl) ?_
  refine lv_iload_n hx hb dX11_back_1 rfl (lv_at hl 1 rfl) ?_
  have hPc := hP.sub (ws' := [(ax, .inr (0, [.ref xt, .ref xp, .ref xs, .ref xl, .ref xb, .ref xk, .ref xm, .ref xq, .ref xg, .ref xf, .ref xe, .int 49])), (xb, .inl (dA 6, 3, .inr (.inr (.inr (.inr fb)))))]) [0, 1] rfl
  have hDc := hD.sub (ws' := [(ax, .inr (0, [.ref xt, .ref xp, .ref xs, .ref xl, .ref xb, .ref xk, .ref xm, .ref xq, .ref xg, .ref xf, .ref xe, .int 49])), (xb, .inl (dA 6, 3, .inr (.inr (.inr (.inr fb)))))]) [0, 1] (by decide) rfl
  have hFc := va_free (wc := [(ax, .inr (0, [.ref xt, .ref xp, .ref xs, .ref xl, .ref xb, .ref xk, .ref xm, .ref xq, .ref xg, .ref xf, .ref xe, .int 49])), (xb, .inl (dA 6, 3, .inr (.inr (.inr (.inr fb)))))]) hD hS hA [0, 1] rfl
  refine va_callq (va_runV (As := [.int (nI i)]) (rest := []) ⟨hx, hb, hml, hown, hw⟩ (c_bookOf l D dA dZ _ ax xt xp xs xl xb xk xm xq xg xf xe i fb bk hi hf) (z_cwV 1 hw mw_603 mw_605 ms_3 mw_1 mw_606 rfl rfl (by decide +kernel) ⟨Nat.le_of_ble_eq_true rfl, Nat.le_of_ble_eq_true rfl⟩) (zPreV hPc hK hDc hT hE hS hFc (va_recv hK hP (ci := 0) (q0 := 0) rfl rfl)) rfl rfl hl.1 rfl (lv_room (Nat.le_of_ble_eq_true rfl)) dX11_back_2 ⟨Nat.le_of_ble_eq_true rfl, Nat.le_of_ble_eq_true rfl⟩) hS (fun q _ h => hFc q h) hFc (fun r_1 u t H1 locs ht hvm hpo hB hz1 hk1 hS => ?_)
  obtain ⟨hP1, hD1⟩ := hB
  rw [ht] at hP1
  obtain ⟨hP, hD⟩ := va_join (wr := [(bk, .inr (5, [.int hd, .ref xl, .ref b1, .ref b2, .ref b3, .ref b4, .int 0, .int 0, .int 0])), (b3, .inl (dA 1, 250, .inl (fun _ => 0))), (xl, .inr (2, [.ref bl, .ref no, .ref ro, .int 0]))]) (w1 := [(ax, .inr (0, [.ref xt, .ref xp, .ref xs, .ref xl, .ref xb, .ref xk, .ref xm, .ref xq, .ref xg, .ref xf, .ref xe, .int 49])), (xb, .inl (dA 6, 3, .inr (.inr (.inr (.inr fb)))))]) hP hD [0, 1] [2, 3, 4] rfl rfl (by decide) (by decide) hk1 hFc hP1 hD1
  generalize H1 = H at hP hS ⊢
  have hP : va_P D zcl [(bk, .inr (5, [.int hd, .ref xl, .ref b1, .ref b2, .ref b3, .ref b4, .int 0, .int 0, .int 0])), (b3, .inl (dA 1, 250, .inl (fun _ => 0))), (xl, .inr (2, [.ref bl, .ref no, .ref ro, .int 0])), (ax, .inr (0, [.ref xt, .ref xp, .ref xs, .ref xl, .ref xb, .ref xk, .ref xm, .ref xq, .ref xg, .ref xf, .ref xe, .int 49])), (xb, .inl (dA 6, 3, .inr (.inr (.inr (.inr fb)))))] H := hP
  have hD : va_D A [(bk, .inr (5, [.int hd, .ref xl, .ref b1, .ref b2, .ref b3, .ref b4, .int 0, .int 0, .int 0])), (b3, .inl (dA 1, 250, .inl (fun _ => 0))), (xl, .inr (2, [.ref bl, .ref no, .ref ro, .int 0])), (ax, .inr (0, [.ref xt, .ref xp, .ref xs, .ref xl, .ref xb, .ref xk, .ref xm, .ref xq, .ref xg, .ref xf, .ref xe, .int 49])), (xb, .inl (dA 6, 3, .inr (.inr (.inr (.inr fb)))))] := hD
  obtain rfl : r_1 = (some bk) := hpo
  refine lv_astore_n (lv' := [(3, .ref bk), (0, .ref ax), (1, .int (nI i)), (2, .int y0)]) hx hb dX11_back_5 rfl hl (by decide) rfl (fun ls hl => ?_)
  refine lv_aload_n hx hb dX11_back_6 rfl (lv_at hl 1 rfl) ?_
  refine lv_iload_n hx hb dX11_back_7 rfl (lv_at hl 3 rfl) ?_
  have hPc := hP.sub (ws' := [(ax, .inr (0, [.ref xt, .ref xp, .ref xs, .ref xl, .ref xb, .ref xk, .ref xm, .ref xq, .ref xg, .ref xf, .ref xe, .int 49])), (xl, .inr (2, [.ref bl, .ref no, .ref ro, .int 0]))]) [3, 2] rfl
  have hDc := hD.sub (ws' := [(ax, .inr (0, [.ref xt, .ref xp, .ref xs, .ref xl, .ref xb, .ref xk, .ref xm, .ref xq, .ref xg, .ref xf, .ref xe, .int 49])), (xl, .inr (2, [.ref bl, .ref no, .ref ro, .int 0]))]) [3, 2] (by decide) rfl
  have hFc := va_free (wc := [(ax, .inr (0, [.ref xt, .ref xp, .ref xs, .ref xl, .ref xb, .ref xk, .ref xm, .ref xq, .ref xg, .ref xf, .ref xe, .int 49])), (xl, .inr (2, [.ref bl, .ref no, .ref ro, .int 0]))]) hD hS hA [3, 2] rfl
  refine zx_call (E0 := "java/lang/IndexOutOfBoundsException") (vx_runV (As := [.int y0]) (rest := []) ⟨hx, hb, hml, hown, hw⟩ (c_checkChange_no l D dA dZ _ hfl ax xt xp xs xl xb xk xm xq xg xf xe bl no ro y0) (z_cwV 1 hw mw_789 mw_791 ms_16 mw_1 mw_792 rfl rfl (by decide +kernel) ⟨Nat.le_of_ble_eq_true rfl, Nat.le_of_ble_eq_true rfl⟩) (zPreV hPc hK hDc hT hE hS hFc (va_recv hK hP (ci := 0) (q0 := 3) rfl rfl)) rfl rfl hl.1 rfl (lv_room (Nat.le_of_ble_eq_true rfl)) dX11_back_8 ⟨Nat.le_of_ble_eq_true rfl, Nat.le_of_ble_eq_true rfl⟩) hS (fun q _ h => hFc q h) hFc (fun ce q9 H1 locs hz1 hk1 hS hce hcv hcl => ?_)
  exact vx_out (fun x hx => (hno x hx).elim) hlocks hce hcv hcl (fun t ht ha => zX_at hS ht) hS.2.2 (Nat.le_of_ble_eq_true rfl) (Nat.le_of_ble_eq_true rfl)
set_option maxHeartbeats 4000000 in
set_option maxRecDepth 100000 in
/-- counts on a fresh object: none -/
theorem c_counts_none (l : Launch) (D : va_G) (dA : Nat → ClassId) (dZ : Nat → Nat) (sz : Nat) (hfl : l.stackTraces = false) (ax : Nat) (xt : Nat) (xp : Nat) (xs : Nat) (xl : Nat) (xb : Nat) (xk : Nat) (xm : Nat) (xq : Nat) (xg : Nat) (xf : Nat) (xe : Nat) (i : Nat) (fb : Nat → Option Nat) (bk : Nat) (b1 : Nat) (b2 : Nat) (b3 : Nat) (b4 : Nat) (hd : Int32) (bl : Nat) (no : Nat) (ro : Nat) (y0 : Int32) (hi : i < 3) (hf : fb i = some bk) : vx_Met l yX11_counts (wz yX11_counts cX11_counts 4 (some .boolean)) ({ frames := 14, cells := 1, slots := 6, locals := 400 } : Room) (va_Pc [.ref ax, .int (nI i), .int y0] (zP D dA dZ [(ax, .inr (0, [.ref xt, .ref xp, .ref xs, .ref xl, .ref xb, .ref xk, .ref xm, .ref xq, .ref xg, .ref xf, .ref xe, .int 49])), (xb, .inl (dA 6, 3, .inr (.inr (.inr (.inr fb))))), (bk, .inr (5, [.int hd, .ref xl, .ref b1, .ref b2, .ref b3, .ref b4, .int 0, .int 0, .int 0])), (b3, .inl (dA 1, 250, .inl (fun _ => 0))), (xl, .inr (2, [.ref bl, .ref no, .ref ro, .int 0]))] sz)) zNo (zX "java/lang/IndexOutOfBoundsException" (va_A [(ax, .inr (0, [.ref xt, .ref xp, .ref xs, .ref xl, .ref xb, .ref xk, .ref xm, .ref xq, .ref xg, .ref xf, .ref xe, .int 49])), (xb, .inl (dA 6, 3, .inr (.inr (.inr (.inr fb))))), (bk, .inr (5, [.int hd, .ref xl, .ref b1, .ref b2, .ref b3, .ref b4, .int 0, .int 0, .int 0])), (b3, .inl (dA 1, 250, .inl (fun _ => 0))), (xl, .inr (2, [.ref bl, .ref no, .ref ro, .int 0]))] sz)) 1 6 (va_A [(ax, .inr (0, [.ref xt, .ref xp, .ref xs, .ref xl, .ref xb, .ref xk, .ref xm, .ref xq, .ref xg, .ref xf, .ref xe, .int 49])), (xb, .inl (dA 6, 3, .inr (.inr (.inr (.inr fb))))), (bk, .inr (5, [.int hd, .ref xl, .ref b1, .ref b2, .ref b3, .ref b4, .int 0, .int 0, .int 0])), (b3, .inl (dA 1, 250, .inl (fun _ => 0))), (xl, .inr (2, [.ref bl, .ref no, .ref ro, .int 0]))] sz) := by
  refine vx_ofW (cc := cX11_counts) (maxL := 4) (ret := (some .boolean)) (by decide) rfl ?_
  intro p e s m args below meth c s₁ B hml hno hv
  obtain ⟨rfl, hsz, hP, hK, hD0, hT, hE⟩ := hv
  have hx := B.exec
  have hb := B.bytes
  have hr := B.returns
  have hw := wz_hw (atoms_spec (ws := wz yX11_counts cX11_counts 4 (some .boolean)) B.pre)
  have hown : s.vm.findClass "KindredBooks" = some m.cls := findClass_of_methodNamed B.named
  have hlocks := B.notSynchronized
  have hn := hT.1.use (args := ([.ref ax, .int (nI i), .int y0] : List Value).toArray)
  subst hsz
  have hD := hD0.self (sz := s.heap.size)
  generalize hAe : va_A [(ax, .inr (0, [.ref xt, .ref xp, .ref xs, .ref xl, .ref xb, .ref xk, .ref xm, .ref xq, .ref xg, .ref xf, .ref xe, .int 49])), (xb, .inl (dA 6, 3, .inr (.inr (.inr (.inr fb))))), (bk, .inr (5, [.int hd, .ref xl, .ref b1, .ref b2, .ref b3, .ref b4, .int 0, .int 0, .int 0])), (b3, .inl (dA 1, 250, .inl (fun _ => 0))), (xl, .inr (2, [.ref bl, .ref no, .ref ro, .int 0]))] s.heap.size = A at hD hE ⊢
  have hA : ∀ q : Nat, s.heap.size ≤ q → A q := fun q h => by rw [← hAe]; exact Or.inr h
  have hS : va_S A s.heap s.heap [] := va_S.rf
  replace hP : va_P D zcl [(ax, .inr (0, [.ref xt, .ref xp, .ref xs, .ref xl, .ref xb, .ref xk, .ref xm, .ref xq, .ref xg, .ref xf, .ref xe, .int 49])), (xb, .inl (dA 6, 3, .inr (.inr (.inr (.inr fb))))), (bk, .inr (5, [.int hd, .ref xl, .ref b1, .ref b2, .ref b3, .ref b4, .int 0, .int 0, .int 0])), (b3, .inl (dA 1, 250, .inl (fun _ => 0))), (xl, .inr (2, [.ref bl, .ref no, .ref ro, .int 0]))] s.heap := hP
  have hl := lv_entry ([.ref ax, .int (nI i), .int y0]) (n := 4) (Nat.le_of_ble_eq_true rfl)
  rw [lg_entry_eq]
  generalize (lg_sl ([.ref ax, .int (nI i), .int y0]) ++ List.replicate (4 - (lg_sl ([.ref ax, .int (nI i), .int y0])).length) Slot.unset).toArray = ls at hl ⊢
  replace hl : lv_has ls 4 [(0, .ref ax), (1, .int (nI i)), (2, .int y0)] := hl
  refine lv_aload_n hx hb dX11_counts_0 rfl (lv_at hl 0 rfl) ?_
  refine lv_iload_n hx hb dX11_counts_1 rfl (lv_at hl 1 rfl) ?_
  have hPc := hP.sub (ws' := [(ax, .inr (0, [.ref xt, .ref xp, .ref xs, .ref xl, .ref xb, .ref xk, .ref xm, .ref xq, .ref xg, .ref xf, .ref xe, .int 49])), (xb, .inl (dA 6, 3, .inr (.inr (.inr (.inr fb)))))]) [0, 1] rfl
  have hDc := hD.sub (ws' := [(ax, .inr (0, [.ref xt, .ref xp, .ref xs, .ref xl, .ref xb, .ref xk, .ref xm, .ref xq, .ref xg, .ref xf, .ref xe, .int 49])), (xb, .inl (dA 6, 3, .inr (.inr (.inr (.inr fb)))))]) [0, 1] (by decide) rfl
  have hFc := va_free (wc := [(ax, .inr (0, [.ref xt, .ref xp, .ref xs, .ref xl, .ref xb, .ref xk, .ref xm, .ref xq, .ref xg, .ref xf, .ref xe, .int 49])), (xb, .inl (dA 6, 3, .inr (.inr (.inr (.inr fb)))))]) hD hS hA [0, 1] rfl
  refine va_callq (va_runV (As := [.int (nI i)]) (rest := []) ⟨hx, hb, hml, hown, hw⟩ (c_bookOf l D dA dZ _ ax xt xp xs xl xb xk xm xq xg xf xe i fb bk hi hf) (z_cwV 1 hw mw_603 mw_605 ms_3 mw_1 mw_606 rfl rfl (by decide +kernel) ⟨Nat.le_of_ble_eq_true rfl, Nat.le_of_ble_eq_true rfl⟩) (zPreV hPc hK hDc hT hE hS hFc (va_recv hK hP (ci := 0) (q0 := 0) rfl rfl)) rfl rfl hl.1 rfl (lv_room (Nat.le_of_ble_eq_true rfl)) dX11_counts_2 ⟨Nat.le_of_ble_eq_true rfl, Nat.le_of_ble_eq_true rfl⟩) hS (fun q _ h => hFc q h) hFc (fun r_1 u t H1 locs ht hvm hpo hB hz1 hk1 hS => ?_)
  obtain ⟨hP1, hD1⟩ := hB
  rw [ht] at hP1
  obtain ⟨hP, hD⟩ := va_join (wr := [(bk, .inr (5, [.int hd, .ref xl, .ref b1, .ref b2, .ref b3, .ref b4, .int 0, .int 0, .int 0])), (b3, .inl (dA 1, 250, .inl (fun _ => 0))), (xl, .inr (2, [.ref bl, .ref no, .ref ro, .int 0]))]) (w1 := [(ax, .inr (0, [.ref xt, .ref xp, .ref xs, .ref xl, .ref xb, .ref xk, .ref xm, .ref xq, .ref xg, .ref xf, .ref xe, .int 49])), (xb, .inl (dA 6, 3, .inr (.inr (.inr (.inr fb)))))]) hP hD [0, 1] [2, 3, 4] rfl rfl (by decide) (by decide) hk1 hFc hP1 hD1
  generalize H1 = H at hP hS ⊢
  have hP : va_P D zcl [(bk, .inr (5, [.int hd, .ref xl, .ref b1, .ref b2, .ref b3, .ref b4, .int 0, .int 0, .int 0])), (b3, .inl (dA 1, 250, .inl (fun _ => 0))), (xl, .inr (2, [.ref bl, .ref no, .ref ro, .int 0])), (ax, .inr (0, [.ref xt, .ref xp, .ref xs, .ref xl, .ref xb, .ref xk, .ref xm, .ref xq, .ref xg, .ref xf, .ref xe, .int 49])), (xb, .inl (dA 6, 3, .inr (.inr (.inr (.inr fb)))))] H := hP
  have hD : va_D A [(bk, .inr (5, [.int hd, .ref xl, .ref b1, .ref b2, .ref b3, .ref b4, .int 0, .int 0, .int 0])), (b3, .inl (dA 1, 250, .inl (fun _ => 0))), (xl, .inr (2, [.ref bl, .ref no, .ref ro, .int 0])), (ax, .inr (0, [.ref xt, .ref xp, .ref xs, .ref xl, .ref xb, .ref xk, .ref xm, .ref xq, .ref xg, .ref xf, .ref xe, .int 49])), (xb, .inl (dA 6, 3, .inr (.inr (.inr (.inr fb)))))] := hD
  obtain rfl : r_1 = (some bk) := hpo
  refine lv_astore_n (lv' := [(3, .ref bk), (0, .ref ax), (1, .int (nI i)), (2, .int y0)]) hx hb dX11_counts_5 rfl hl (by decide) rfl (fun ls hl => ?_)
  refine lv_aload_n hx hb dX11_counts_6 rfl (lv_at hl 1 rfl) ?_
  refine lv_iload_n hx hb dX11_counts_7 rfl (lv_at hl 3 rfl) ?_
  have hPc := hP.sub (ws' := [(ax, .inr (0, [.ref xt, .ref xp, .ref xs, .ref xl, .ref xb, .ref xk, .ref xm, .ref xq, .ref xg, .ref xf, .ref xe, .int 49])), (xl, .inr (2, [.ref bl, .ref no, .ref ro, .int 0]))]) [3, 2] rfl
  have hDc := hD.sub (ws' := [(ax, .inr (0, [.ref xt, .ref xp, .ref xs, .ref xl, .ref xb, .ref xk, .ref xm, .ref xq, .ref xg, .ref xf, .ref xe, .int 49])), (xl, .inr (2, [.ref bl, .ref no, .ref ro, .int 0]))]) [3, 2] (by decide) rfl
  have hFc := va_free (wc := [(ax, .inr (0, [.ref xt, .ref xp, .ref xs, .ref xl, .ref xb, .ref xk, .ref xm, .ref xq, .ref xg, .ref xf, .ref xe, .int 49])), (xl, .inr (2, [.ref bl, .ref no, .ref ro, .int 0]))]) hD hS hA [3, 2] rfl
  refine zx_call (E0 := "java/lang/IndexOutOfBoundsException") (vx_runV (As := [.int y0]) (rest := []) ⟨hx, hb, hml, hown, hw⟩ (c_checkChange_no l D dA dZ _ hfl ax xt xp xs xl xb xk xm xq xg xf xe bl no ro y0) (z_cwV 1 hw mw_789 mw_791 ms_16 mw_1 mw_792 rfl rfl (by decide +kernel) ⟨Nat.le_of_ble_eq_true rfl, Nat.le_of_ble_eq_true rfl⟩) (zPreV hPc hK hDc hT hE hS hFc (va_recv hK hP (ci := 0) (q0 := 3) rfl rfl)) rfl rfl hl.1 rfl (lv_room (Nat.le_of_ble_eq_true rfl)) dX11_counts_8 ⟨Nat.le_of_ble_eq_true rfl, Nat.le_of_ble_eq_true rfl⟩) hS (fun q _ h => hFc q h) hFc (fun ce q9 H1 locs hz1 hk1 hS hce hcv hcl => ?_)
  exact vx_out (fun x hx => (hno x hx).elim) hlocks hce hcv hcl (fun t ht ha => zX_at hS ht) hS.2.2 (Nat.le_of_ble_eq_true rfl) (Nat.le_of_ble_eq_true rfl)
set_option maxHeartbeats 4000000 in
set_option maxRecDepth 100000 in
/-- stands on a fresh object: none -/
theorem c_stands_none (l : Launch) (D : va_G) (dA : Nat → ClassId) (dZ : Nat → Nat) (sz : Nat) (hfl : l.stackTraces = false) (ax : Nat) (xt : Nat) (xp : Nat) (xs : Nat) (xl : Nat) (xb : Nat) (xk : Nat) (xm : Nat) (xq : Nat) (xg : Nat) (xf : Nat) (xe : Nat) (i : Nat) (fb : Nat → Option Nat) (bk : Nat) (b1 : Nat) (b2 : Nat) (b3 : Nat) (b4 : Nat) (hd : Int32) (bl : Nat) (no : Nat) (ro : Nat) (y0 : Int32) (hi : i < 3) (hf : fb i = some bk) : vx_Met l yX11_stands (wz yX11_stands cX11_stands 4 (some .boolean)) ({ frames := 14, cells := 1, slots := 6, locals := 400 } : Room) (va_Pc [.ref ax, .int (nI i), .int y0] (zP D dA dZ [(ax, .inr (0, [.ref xt, .ref xp, .ref xs, .ref xl, .ref xb, .ref xk, .ref xm, .ref xq, .ref xg, .ref xf, .ref xe, .int 49])), (xb, .inl (dA 6, 3, .inr (.inr (.inr (.inr fb))))), (bk, .inr (5, [.int hd, .ref xl, .ref b1, .ref b2, .ref b3, .ref b4, .int 0, .int 0, .int 0])), (b3, .inl (dA 1, 250, .inl (fun _ => 0))), (xl, .inr (2, [.ref bl, .ref no, .ref ro, .int 0]))] sz)) zNo (zX "java/lang/IndexOutOfBoundsException" (va_A [(ax, .inr (0, [.ref xt, .ref xp, .ref xs, .ref xl, .ref xb, .ref xk, .ref xm, .ref xq, .ref xg, .ref xf, .ref xe, .int 49])), (xb, .inl (dA 6, 3, .inr (.inr (.inr (.inr fb))))), (bk, .inr (5, [.int hd, .ref xl, .ref b1, .ref b2, .ref b3, .ref b4, .int 0, .int 0, .int 0])), (b3, .inl (dA 1, 250, .inl (fun _ => 0))), (xl, .inr (2, [.ref bl, .ref no, .ref ro, .int 0]))] sz)) 1 6 (va_A [(ax, .inr (0, [.ref xt, .ref xp, .ref xs, .ref xl, .ref xb, .ref xk, .ref xm, .ref xq, .ref xg, .ref xf, .ref xe, .int 49])), (xb, .inl (dA 6, 3, .inr (.inr (.inr (.inr fb))))), (bk, .inr (5, [.int hd, .ref xl, .ref b1, .ref b2, .ref b3, .ref b4, .int 0, .int 0, .int 0])), (b3, .inl (dA 1, 250, .inl (fun _ => 0))), (xl, .inr (2, [.ref bl, .ref no, .ref ro, .int 0]))] sz) := by
  refine vx_ofW (cc := cX11_stands) (maxL := 4) (ret := (some .boolean)) (by decide) rfl ?_
  intro p e s m args below meth c s₁ B hml hno hv
  obtain ⟨rfl, hsz, hP, hK, hD0, hT, hE⟩ := hv
  have hx := B.exec
  have hb := B.bytes
  have hr := B.returns
  have hw := wz_hw (atoms_spec (ws := wz yX11_stands cX11_stands 4 (some .boolean)) B.pre)
  have hown : s.vm.findClass "KindredBooks" = some m.cls := findClass_of_methodNamed B.named
  have hlocks := B.notSynchronized
  have hn := hT.1.use (args := ([.ref ax, .int (nI i), .int y0] : List Value).toArray)
  subst hsz
  have hD := hD0.self (sz := s.heap.size)
  generalize hAe : va_A [(ax, .inr (0, [.ref xt, .ref xp, .ref xs, .ref xl, .ref xb, .ref xk, .ref xm, .ref xq, .ref xg, .ref xf, .ref xe, .int 49])), (xb, .inl (dA 6, 3, .inr (.inr (.inr (.inr fb))))), (bk, .inr (5, [.int hd, .ref xl, .ref b1, .ref b2, .ref b3, .ref b4, .int 0, .int 0, .int 0])), (b3, .inl (dA 1, 250, .inl (fun _ => 0))), (xl, .inr (2, [.ref bl, .ref no, .ref ro, .int 0]))] s.heap.size = A at hD hE ⊢
  have hA : ∀ q : Nat, s.heap.size ≤ q → A q := fun q h => by rw [← hAe]; exact Or.inr h
  have hS : va_S A s.heap s.heap [] := va_S.rf
  replace hP : va_P D zcl [(ax, .inr (0, [.ref xt, .ref xp, .ref xs, .ref xl, .ref xb, .ref xk, .ref xm, .ref xq, .ref xg, .ref xf, .ref xe, .int 49])), (xb, .inl (dA 6, 3, .inr (.inr (.inr (.inr fb))))), (bk, .inr (5, [.int hd, .ref xl, .ref b1, .ref b2, .ref b3, .ref b4, .int 0, .int 0, .int 0])), (b3, .inl (dA 1, 250, .inl (fun _ => 0))), (xl, .inr (2, [.ref bl, .ref no, .ref ro, .int 0]))] s.heap := hP
  have hl := lv_entry ([.ref ax, .int (nI i), .int y0]) (n := 4) (Nat.le_of_ble_eq_true rfl)
  rw [lg_entry_eq]
  generalize (lg_sl ([.ref ax, .int (nI i), .int y0]) ++ List.replicate (4 - (lg_sl ([.ref ax, .int (nI i), .int y0])).length) Slot.unset).toArray = ls at hl ⊢
  replace hl : lv_has ls 4 [(0, .ref ax), (1, .int (nI i)), (2, .int y0)] := hl
  refine lv_aload_n hx hb dX11_stands_0 rfl (lv_at hl 0 rfl) ?_
  refine lv_iload_n hx hb dX11_stands_1 rfl (lv_at hl 1 rfl) ?_
  have hPc := hP.sub (ws' := [(ax, .inr (0, [.ref xt, .ref xp, .ref xs, .ref xl, .ref xb, .ref xk, .ref xm, .ref xq, .ref xg, .ref xf, .ref xe, .int 49])), (xb, .inl (dA 6, 3, .inr (.inr (.inr (.inr fb)))))]) [0, 1] rfl
  have hDc := hD.sub (ws' := [(ax, .inr (0, [.ref xt, .ref xp, .ref xs, .ref xl, .ref xb, .ref xk, .ref xm, .ref xq, .ref xg, .ref xf, .ref xe, .int 49])), (xb, .inl (dA 6, 3, .inr (.inr (.inr (.inr fb)))))]) [0, 1] (by decide) rfl
  have hFc := va_free (wc := [(ax, .inr (0, [.ref xt, .ref xp, .ref xs, .ref xl, .ref xb, .ref xk, .ref xm, .ref xq, .ref xg, .ref xf, .ref xe, .int 49])), (xb, .inl (dA 6, 3, .inr (.inr (.inr (.inr fb)))))]) hD hS hA [0, 1] rfl
  refine va_callq (va_runV (As := [.int (nI i)]) (rest := []) ⟨hx, hb, hml, hown, hw⟩ (c_bookOf l D dA dZ _ ax xt xp xs xl xb xk xm xq xg xf xe i fb bk hi hf) (z_cwV 1 hw mw_603 mw_605 ms_3 mw_1 mw_606 rfl rfl (by decide +kernel) ⟨Nat.le_of_ble_eq_true rfl, Nat.le_of_ble_eq_true rfl⟩) (zPreV hPc hK hDc hT hE hS hFc (va_recv hK hP (ci := 0) (q0 := 0) rfl rfl)) rfl rfl hl.1 rfl (lv_room (Nat.le_of_ble_eq_true rfl)) dX11_stands_2 ⟨Nat.le_of_ble_eq_true rfl, Nat.le_of_ble_eq_true rfl⟩) hS (fun q _ h => hFc q h) hFc (fun r_1 u t H1 locs ht hvm hpo hB hz1 hk1 hS => ?_)
  obtain ⟨hP1, hD1⟩ := hB
  rw [ht] at hP1
  obtain ⟨hP, hD⟩ := va_join (wr := [(bk, .inr (5, [.int hd, .ref xl, .ref b1, .ref b2, .ref b3, .ref b4, .int 0, .int 0, .int 0])), (b3, .inl (dA 1, 250, .inl (fun _ => 0))), (xl, .inr (2, [.ref bl, .ref no, .ref ro, .int 0]))]) (w1 := [(ax, .inr (0, [.ref xt, .ref xp, .ref xs, .ref xl, .ref xb, .ref xk, .ref xm, .ref xq, .ref xg, .ref xf, .ref xe, .int 49])), (xb, .inl (dA 6, 3, .inr (.inr (.inr (.inr fb)))))]) hP hD [0, 1] [2, 3, 4] rfl rfl (by decide) (by decide) hk1 hFc hP1 hD1
  generalize H1 = H at hP hS ⊢
  have hP : va_P D zcl [(bk, .inr (5, [.int hd, .ref xl, .ref b1, .ref b2, .ref b3, .ref b4, .int 0, .int 0, .int 0])), (b3, .inl (dA 1, 250, .inl (fun _ => 0))), (xl, .inr (2, [.ref bl, .ref no, .ref ro, .int 0])), (ax, .inr (0, [.ref xt, .ref xp, .ref xs, .ref xl, .ref xb, .ref xk, .ref xm, .ref xq, .ref xg, .ref xf, .ref xe, .int 49])), (xb, .inl (dA 6, 3, .inr (.inr (.inr (.inr fb)))))] H := hP
  have hD : va_D A [(bk, .inr (5, [.int hd, .ref xl, .ref b1, .ref b2, .ref b3, .ref b4, .int 0, .int 0, .int 0])), (b3, .inl (dA 1, 250, .inl (fun _ => 0))), (xl, .inr (2, [.ref bl, .ref no, .ref ro, .int 0])), (ax, .inr (0, [.ref xt, .ref xp, .ref xs, .ref xl, .ref xb, .ref xk, .ref xm, .ref xq, .ref xg, .ref xf, .ref xe, .int 49])), (xb, .inl (dA 6, 3, .inr (.inr (.inr (.inr fb)))))] := hD
  obtain rfl : r_1 = (some bk) := hpo
  refine lv_astore_n (lv' := [(3, .ref bk), (0, .ref ax), (1, .int (nI i)), (2, .int y0)]) hx hb dX11_stands_5 rfl hl (by decide) rfl (fun ls hl => ?_)
  refine lv_aload_n hx hb dX11_stands_6 rfl (lv_at hl 1 rfl) ?_
  refine lv_iload_n hx hb dX11_stands_7 rfl (lv_at hl 3 rfl) ?_
  have hPc := hP.sub (ws' := [(ax, .inr (0, [.ref xt, .ref xp, .ref xs, .ref xl, .ref xb, .ref xk, .ref xm, .ref xq, .ref xg, .ref xf, .ref xe, .int 49])), (xl, .inr (2, [.ref bl, .ref no, .ref ro, .int 0]))]) [3, 2] rfl
  have hDc := hD.sub (ws' := [(ax, .inr (0, [.ref xt, .ref xp, .ref xs, .ref xl, .ref xb, .ref xk, .ref xm, .ref xq, .ref xg, .ref xf, .ref xe, .int 49])), (xl, .inr (2, [.ref bl, .ref no, .ref ro, .int 0]))]) [3, 2] (by decide) rfl
  have hFc := va_free (wc := [(ax, .inr (0, [.ref xt, .ref xp, .ref xs, .ref xl, .ref xb, .ref xk, .ref xm, .ref xq, .ref xg, .ref xf, .ref xe, .int 49])), (xl, .inr (2, [.ref bl, .ref no, .ref ro, .int 0]))]) hD hS hA [3, 2] rfl
  refine zx_call (E0 := "java/lang/IndexOutOfBoundsException") (vx_runV (As := [.int y0]) (rest := []) ⟨hx, hb, hml, hown, hw⟩ (c_checkChange_no l D dA dZ _ hfl ax xt xp xs xl xb xk xm xq xg xf xe bl no ro y0) (z_cwV 1 hw mw_789 mw_791 ms_16 mw_1 mw_792 rfl rfl (by decide +kernel) ⟨Nat.le_of_ble_eq_true rfl, Nat.le_of_ble_eq_true rfl⟩) (zPreV hPc hK hDc hT hE hS hFc (va_recv hK hP (ci := 0) (q0 := 3) rfl rfl)) rfl rfl hl.1 rfl (lv_room (Nat.le_of_ble_eq_true rfl)) dX11_stands_8 ⟨Nat.le_of_ble_eq_true rfl, Nat.le_of_ble_eq_true rfl⟩) hS (fun q _ h => hFc q h) hFc (fun ce q9 H1 locs hz1 hk1 hS hce hcv hcl => ?_)
  exact vx_out (fun x hx => (hno x hx).elim) hlocks hce hcv hcl (fun t ht ha => zX_at hS ht) hS.2.2 (Nat.le_of_ble_eq_true rfl) (Nat.le_of_ble_eq_true rfl)
set_option maxHeartbeats 4000000 in
set_option maxRecDepth 100000 in
/-- latestOwn of an empty ledger -/
theorem c_latestOwn0 (l : Launch) (D : va_G) (dA : Nat → ClassId) (dZ : Nat → Nat) (sz : Nat) (bk : Nat) (xl : Nat) (b1 : Nat) (b2 : Nat) (b3 : Nat) (b4 : Nat) (hd : Int32) (bl : Nat) (no : Nat) (ro : Nat) : Met l yX1_latestOwn (wz yX1_latestOwn cX1_latestOwn 3 (some .int)) ({ frames := 0, cells := 0, slots := 0, locals := 0 } : Room) (va_Pc [.ref bk] (zP D dA dZ [(bk, .inr (5, [.int hd, .ref xl, .ref b1, .ref b2, .ref b3, .ref b4, .int 0, .int 0, .int 0])), (xl, .inr (2, [.ref bl, .ref no, .ref ro, .int 0]))] sz)) (va_Qi (fun (r : Int32) (_ : Unit) => r = (-1)) (fun _ => zB D (va_A [(bk, .inr (5, [.int hd, .ref xl, .ref b1, .ref b2, .ref b3, .ref b4, .int 0, .int 0, .int 0])), (xl, .inr (2, [.ref bl, .ref no, .ref ro, .int 0]))] sz) [(bk, .inr (5, [.int hd, .ref xl, .ref b1, .ref b2, .ref b3, .ref b4, .int 0, .int 0, .int 0])), (xl, .inr (2, [.ref bl, .ref no, .ref ro, .int 0]))]) (va_A [(bk, .inr (5, [.int hd, .ref xl, .ref b1, .ref b2, .ref b3, .ref b4, .int 0, .int 0, .int 0])), (xl, .inr (2, [.ref bl, .ref no, .ref ro, .int 0]))] sz)) 0 0 (va_A [(bk, .inr (5, [.int hd, .ref xl, .ref b1, .ref b2, .ref b3, .ref b4, .int 0, .int 0, .int 0])), (xl, .inr (2, [.ref bl, .ref no, .ref ro, .int 0]))] sz) := by
  refine Met.ofW (cc := cX1_latestOwn) (maxL := 3) (ret := (some .int)) (by decide) rfl ?_
  intro p e s m args below meth c s₁ B hml hv
  obtain ⟨rfl, hsz, hP, hK, hD0, hT, hE⟩ := hv
  have hx := B.exec
  have hb := B.bytes
  have hr := B.returns
  have hw := wz_hw (atoms_spec (ws := wz yX1_latestOwn cX1_latestOwn 3 (some .int)) B.pre)
  have hown : s.vm.findClass "KindredBooks$Book" = some m.cls := findClass_of_methodNamed B.named
  have hlocks := B.notSynchronized
  have hn := hT.1.use (args := ([.ref bk] : List Value).toArray)
  subst hsz
  have hD := hD0.self (sz := s.heap.size)
  generalize hAe : va_A [(bk, .inr (5, [.int hd, .ref xl, .ref b1, .ref b2, .ref b3, .ref b4, .int 0, .int 0, .int 0])), (xl, .inr (2, [.ref bl, .ref no, .ref ro, .int 0]))] s.heap.size = A at hD hE ⊢
  have hA : ∀ q : Nat, s.heap.size ≤ q → A q := fun q h => by rw [← hAe]; exact Or.inr h
  have hS : va_S A s.heap s.heap [] := va_S.rf
  replace hP : va_P D zcl [(bk, .inr (5, [.int hd, .ref xl, .ref b1, .ref b2, .ref b3, .ref b4, .int 0, .int 0, .int 0])), (xl, .inr (2, [.ref bl, .ref no, .ref ro, .int 0]))] s.heap := hP
  have hl := lv_entry ([.ref bk]) (n := 3) (Nat.le_of_ble_eq_true rfl)
  rw [lg_entry_eq]
  generalize (lg_sl ([.ref bk]) ++ List.replicate (3 - (lg_sl ([.ref bk])).length) Slot.unset).toArray = ls at hl ⊢
  replace hl : lv_has ls 3 [(0, .ref bk)] := hl
  refine lv_aload_n hx hb dX1_latestOwn_0 rfl (lv_at hl 0 rfl) ?_
  refine va_get (D := D) (ci := 5) (v := .ref xl) (C := "KindredBooks$Book") (T := T_zk5) (N := 9) hx hb hw in_zk5 hown hK hP 0 rfl rfl 1 (by decide) (hw _ mw_269) (fun _ h9 => h9) rfl dX1_latestOwn_1 ?_
  refine va_getN (D := D) (ci := 2) (v := .int 0) (C := "KindredBooks$Ledger") (T := T_zk2) (N := 4) hx hb hw in_zk2 hown hK hP 1 rfl rfl 3 (by decide) (hn _ mn_169) (fun _ h9 => h9) rfl dX1_latestOwn_4 ?_
  refine lv_iconst (v := 1) hx hb dX1_latestOwn_7 (by decide) ?_
  refine lv_isub hx hb dX1_latestOwn_8 ?_
  refine lv_topi (fun v_1 ev_1 => ?_)
  obtain rfl : v_1 = (-1) := ev_1.trans (by decide)
  refine lv_istore_n (lv' := [(1, .int (-1)), (0, .ref bk)]) hx hb dX1_latestOwn_9 rfl hl (by decide) rfl (fun ls hl => ?_)
  refine lv_iload_n hx hb dX1_latestOwn_10 rfl (lv_at hl 0 rfl) ?_
  refine lv_if_lt (tgt := 59) hx hb dX1_latestOwn_11 (by decide) (fun _ => ?_) (fun zc => absurd (by decide) zc)
  refine lv_iconst (v := (-1)) hx hb dX1_latestOwn_59 (by decide) ?_
  have hP9 := hP.sub (ws' := [(bk, .inr (5, [.int hd, .ref xl, .ref b1, .ref b2, .ref b3, .ref b4, .int 0, .int 0, .int 0])), (xl, .inr (2, [.ref bl, .ref no, .ref ro, .int 0]))]) [0, 1] rfl
  have hD9 := hD.sub (ws' := [(bk, .inr (5, [.int hd, .ref xl, .ref b1, .ref b2, .ref b3, .ref b4, .int 0, .int 0, .int 0])), (xl, .inr (2, [.ref bl, .ref no, .ref ro, .int 0]))]) [0, 1] (by decide) rfl
  exact W.iret (v := (-1)) hx hb hr (fun t ht hW => ⟨⟨(-1), (), rfl, rfl, by rw [ht]; exact hP9, hD9⟩, hS.F ht⟩) hS.2.2 dX1_latestOwn_60
set_option maxHeartbeats 4000000 in
set_option maxRecDepth 100000 in
/-- undo on a fresh object: none -/
theorem c_undo_none (l : Launch) (D : va_G) (dA : Nat → ClassId) (dZ : Nat → Nat) (sz : Nat) (ax : Nat) (xt : Nat) (xp : Nat) (xs : Nat) (xl : Nat) (xb : Nat) (xk : Nat) (xm : Nat) (xq : Nat) (xg : Nat) (xf : Nat) (xe : Nat) (i : Nat) (fb : Nat → Option Nat) (bk : Nat) (b1 : Nat) (b2 : Nat) (b3 : Nat) (b4 : Nat) (hd : Int32) (bl : Nat) (no : Nat) (ro : Nat) (hi : i < 3) (hf : fb i = some bk) : Met l yX11_undo (wz yX11_undo cX11_undo 4 (some .int)) ({ frames := 14, cells := 0, slots := 0, locals := 400 } : Room) (va_Pc [.ref ax, .int (nI i)] (zP D dA dZ [(ax, .inr (0, [.ref xt, .ref xp, .ref xs, .ref xl, .ref xb, .ref xk, .ref xm, .ref xq, .ref xg, .ref xf, .ref xe, .int 49])), (xb, .inl (dA 6, 3, .inr (.inr (.inr (.inr fb))))), (bk, .inr (5, [.int hd, .ref xl, .ref b1, .ref b2, .ref b3, .ref b4, .int 0, .int 0, .int 0])), (b3, .inl (dA 1, 250, .inl (fun _ => 0))), (xl, .inr (2, [.ref bl, .ref no, .ref ro, .int 0]))] sz)) (va_Qi (fun (r : Int32) (_ : Unit) => r = (-1)) (fun _ => zB D (va_A [(ax, .inr (0, [.ref xt, .ref xp, .ref xs, .ref xl, .ref xb, .ref xk, .ref xm, .ref xq, .ref xg, .ref xf, .ref xe, .int 49])), (xb, .inl (dA 6, 3, .inr (.inr (.inr (.inr fb))))), (bk, .inr (5, [.int hd, .ref xl, .ref b1, .ref b2, .ref b3, .ref b4, .int 0, .int 0, .int 0])), (b3, .inl (dA 1, 250, .inl (fun _ => 0))), (xl, .inr (2, [.ref bl, .ref no, .ref ro, .int 0]))] sz) [(ax, .inr (0, [.ref xt, .ref xp, .ref xs, .ref xl, .ref xb, .ref xk, .ref xm, .ref xq, .ref xg, .ref xf, .ref xe, .int 49])), (xb, .inl (dA 6, 3, .inr (.inr (.inr (.inr fb))))), (bk, .inr (5, [.int hd, .ref xl, .ref b1, .ref b2, .ref b3, .ref b4, .int 0, .int 0, .int 0])), (b3, .inl (dA 1, 250, .inl (fun _ => 0))), (xl, .inr (2, [.ref bl, .ref no, .ref ro, .int 0]))]) (va_A [(ax, .inr (0, [.ref xt, .ref xp, .ref xs, .ref xl, .ref xb, .ref xk, .ref xm, .ref xq, .ref xg, .ref xf, .ref xe, .int 49])), (xb, .inl (dA 6, 3, .inr (.inr (.inr (.inr fb))))), (bk, .inr (5, [.int hd, .ref xl, .ref b1, .ref b2, .ref b3, .ref b4, .int 0, .int 0, .int 0])), (b3, .inl (dA 1, 250, .inl (fun _ => 0))), (xl, .inr (2, [.ref bl, .ref no, .ref ro, .int 0]))] sz)) 0 0 (va_A [(ax, .inr (0, [.ref xt, .ref xp, .ref xs, .ref xl, .ref xb, .ref xk, .ref xm, .ref xq, .ref xg, .ref xf, .ref xe, .int 49])), (xb, .inl (dA 6, 3, .inr (.inr (.inr (.inr fb))))), (bk, .inr (5, [.int hd, .ref xl, .ref b1, .ref b2, .ref b3, .ref b4, .int 0, .int 0, .int 0])), (b3, .inl (dA 1, 250, .inl (fun _ => 0))), (xl, .inr (2, [.ref bl, .ref no, .ref ro, .int 0]))] sz) := by
  refine Met.ofW (cc := cX11_undo) (maxL := 4) (ret := (some .int)) (by decide) rfl ?_
  intro p e s m args below meth c s₁ B hml hv
  obtain ⟨rfl, hsz, hP, hK, hD0, hT, hE⟩ := hv
  have hx := B.exec
  have hb := B.bytes
  have hr := B.returns
  have hw := wz_hw (atoms_spec (ws := wz yX11_undo cX11_undo 4 (some .int)) B.pre)
  have hown : s.vm.findClass "KindredBooks" = some m.cls := findClass_of_methodNamed B.named
  have hlocks := B.notSynchronized
  have hn := hT.1.use (args := ([.ref ax, .int (nI i)] : List Value).toArray)
  subst hsz
  have hD := hD0.self (sz := s.heap.size)
  generalize hAe : va_A [(ax, .inr (0, [.ref xt, .ref xp, .ref xs, .ref xl, .ref xb, .ref xk, .ref xm, .ref xq, .ref xg, .ref xf, .ref xe, .int 49])), (xb, .inl (dA 6, 3, .inr (.inr (.inr (.inr fb))))), (bk, .inr (5, [.int hd, .ref xl, .ref b1, .ref b2, .ref b3, .ref b4, .int 0, .int 0, .int 0])), (b3, .inl (dA 1, 250, .inl (fun _ => 0))), (xl, .inr (2, [.ref bl, .ref no, .ref ro, .int 0]))] s.heap.size = A at hD hE ⊢
  have hA : ∀ q : Nat, s.heap.size ≤ q → A q := fun q h => by rw [← hAe]; exact Or.inr h
  have hS : va_S A s.heap s.heap [] := va_S.rf
  replace hP : va_P D zcl [(ax, .inr (0, [.ref xt, .ref xp, .ref xs, .ref xl, .ref xb, .ref xk, .ref xm, .ref xq, .ref xg, .ref xf, .ref xe, .int 49])), (xb, .inl (dA 6, 3, .inr (.inr (.inr (.inr fb))))), (bk, .inr (5, [.int hd, .ref xl, .ref b1, .ref b2, .ref b3, .ref b4, .int 0, .int 0, .int 0])), (b3, .inl (dA 1, 250, .inl (fun _ => 0))), (xl, .inr (2, [.ref bl, .ref no, .ref ro, .int 0]))] s.heap := hP
  have hl := lv_entry ([.ref ax, .int (nI i)]) (n := 4) (Nat.le_of_ble_eq_true rfl)
  rw [lg_entry_eq]
  generalize (lg_sl ([.ref ax, .int (nI i)]) ++ List.replicate (4 - (lg_sl ([.ref ax, .int (nI i)])).length) Slot.unset).toArray = ls at hl ⊢
  replace hl : lv_has ls 4 [(0, .ref ax), (1, .int (nI i))] := hl
  refine lv_aload_n hx hb dX11_undo_0 rfl (lv_at hl 0 rfl) ?_
  refine lv_iload_n hx hb dX11_undo_1 rfl (lv_at hl 1 rfl) ?_
  have hPc := hP.sub (ws' := [(ax, .inr (0, [.ref xt, .ref xp, .ref xs, .ref xl, .ref xb, .ref xk, .ref xm, .ref xq, .ref xg, .ref xf, .ref xe, .int 49])), (xb, .inl (dA 6, 3, .inr (.inr (.inr (.inr fb)))))]) [0, 1] rfl
  have hDc := hD.sub (ws' := [(ax, .inr (0, [.ref xt, .ref xp, .ref xs, .ref xl, .ref xb, .ref xk, .ref xm, .ref xq, .ref xg, .ref xf, .ref xe, .int 49])), (xb, .inl (dA 6, 3, .inr (.inr (.inr (.inr fb)))))]) [0, 1] (by decide) rfl
  have hFc := va_free (wc := [(ax, .inr (0, [.ref xt, .ref xp, .ref xs, .ref xl, .ref xb, .ref xk, .ref xm, .ref xq, .ref xg, .ref xf, .ref xe, .int 49])), (xb, .inl (dA 6, 3, .inr (.inr (.inr (.inr fb)))))]) hD hS hA [0, 1] rfl
  refine va_callq (va_runV (As := [.int (nI i)]) (rest := []) ⟨hx, hb, hml, hown, hw⟩ (c_bookOf l D dA dZ _ ax xt xp xs xl xb xk xm xq xg xf xe i fb bk hi hf) (z_cwV 1 hw mw_603 mw_605 ms_3 mw_1 mw_606 rfl rfl (by decide +kernel) ⟨Nat.le_of_ble_eq_true rfl, Nat.le_of_ble_eq_true rfl⟩) (zPreV hPc hK hDc hT hE hS hFc (va_recv hK hP (ci := 0) (q0 := 0) rfl rfl)) rfl rfl hl.1 rfl (lv_room (Nat.le_of_ble_eq_true rfl)) dX11_undo_2 ⟨Nat.le_of_ble_eq_true rfl, Nat.le_of_ble_eq_true rfl⟩) hS (fun q _ h => hFc q h) hFc (fun r_1 u t H1 locs ht hvm hpo hB hz1 hk1 hS => ?_)
  obtain ⟨hP1, hD1⟩ := hB
  rw [ht] at hP1
  obtain ⟨hP, hD⟩ := va_join (wr := [(bk, .inr (5, [.int hd, .ref xl, .ref b1, .ref b2, .ref b3, .ref b4, .int 0, .int 0, .int 0])), (b3, .inl (dA 1, 250, .inl (fun _ => 0))), (xl, .inr (2, [.ref bl, .ref no, .ref ro, .int 0]))]) (w1 := [(ax, .inr (0, [.ref xt, .ref xp, .ref xs, .ref xl, .ref xb, .ref xk, .ref xm, .ref xq, .ref xg, .ref xf, .ref xe, .int 49])), (xb, .inl (dA 6, 3, .inr (.inr (.inr (.inr fb)))))]) hP hD [0, 1] [2, 3, 4] rfl rfl (by decide) (by decide) hk1 hFc hP1 hD1
  generalize H1 = H at hP hS ⊢
  have hP : va_P D zcl [(bk, .inr (5, [.int hd, .ref xl, .ref b1, .ref b2, .ref b3, .ref b4, .int 0, .int 0, .int 0])), (b3, .inl (dA 1, 250, .inl (fun _ => 0))), (xl, .inr (2, [.ref bl, .ref no, .ref ro, .int 0])), (ax, .inr (0, [.ref xt, .ref xp, .ref xs, .ref xl, .ref xb, .ref xk, .ref xm, .ref xq, .ref xg, .ref xf, .ref xe, .int 49])), (xb, .inl (dA 6, 3, .inr (.inr (.inr (.inr fb)))))] H := hP
  have hD : va_D A [(bk, .inr (5, [.int hd, .ref xl, .ref b1, .ref b2, .ref b3, .ref b4, .int 0, .int 0, .int 0])), (b3, .inl (dA 1, 250, .inl (fun _ => 0))), (xl, .inr (2, [.ref bl, .ref no, .ref ro, .int 0])), (ax, .inr (0, [.ref xt, .ref xp, .ref xs, .ref xl, .ref xb, .ref xk, .ref xm, .ref xq, .ref xg, .ref xf, .ref xe, .int 49])), (xb, .inl (dA 6, 3, .inr (.inr (.inr (.inr fb)))))] := hD
  obtain rfl : r_1 = (some bk) := hpo
  refine lv_astore_n (lv' := [(2, .ref bk), (0, .ref ax), (1, .int (nI i))]) hx hb dX11_undo_5 rfl hl (by decide) rfl (fun ls hl => ?_)
  refine lv_aload_n hx hb dX11_undo_6 rfl (lv_at hl 0 rfl) ?_
  have hPc := hP.sub (ws' := [(bk, .inr (5, [.int hd, .ref xl, .ref b1, .ref b2, .ref b3, .ref b4, .int 0, .int 0, .int 0])), (xl, .inr (2, [.ref bl, .ref no, .ref ro, .int 0]))]) [0, 2] rfl
  have hDc := hD.sub (ws' := [(bk, .inr (5, [.int hd, .ref xl, .ref b1, .ref b2, .ref b3, .ref b4, .int 0, .int 0, .int 0])), (xl, .inr (2, [.ref bl, .ref no, .ref ro, .int 0]))]) [0, 2] (by decide) rfl
  have hFc := va_free (wc := [(bk, .inr (5, [.int hd, .ref xl, .ref b1, .ref b2, .ref b3, .ref b4, .int 0, .int 0, .int 0])), (xl, .inr (2, [.ref bl, .ref no, .ref ro, .int 0]))]) hD hS hA [0, 2] rfl
  refine va_calli (va_runV (As := []) (rest := []) ⟨hx, hb, hml, hown, hw⟩ (c_latestOwn0 l D dA dZ _ bk xl b1 b2 b3 b4 hd bl no ro) (z_cwV 0 hw mw_806 mw_807 mw_808 mw_9 mw_809 rfl rfl (by decide +kernel) ⟨Nat.le_of_ble_eq_true rfl, Nat.le_of_ble_eq_true rfl⟩) (zPreV hPc hK hDc hT hE hS hFc (va_recv hK hP (ci := 5) (q0 := 0) rfl rfl)) rfl rfl hl.1 rfl (lv_room (Nat.le_of_ble_eq_true rfl)) dX11_undo_7 ⟨Nat.le_of_ble_eq_true rfl, Nat.le_of_ble_eq_true rfl⟩) hS (fun q _ h => hFc q h) hFc (fun r_2 u t H1 locs ht hvm hpo hB hz1 hk1 hS => ?_)
  obtain ⟨hP1, hD1⟩ := hB
  rw [ht] at hP1
  obtain ⟨hP, hD⟩ := va_join (wr := [(b3, .inl (dA 1, 250, .inl (fun _ => 0))), (ax, .inr (0, [.ref xt, .ref xp, .ref xs, .ref xl, .ref xb, .ref xk, .ref xm, .ref xq, .ref xg, .ref xf, .ref xe, .int 49])), (xb, .inl (dA 6, 3, .inr (.inr (.inr (.inr fb)))))]) (w1 := [(bk, .inr (5, [.int hd, .ref xl, .ref b1, .ref b2, .ref b3, .ref b4, .int 0, .int 0, .int 0])), (xl, .inr (2, [.ref bl, .ref no, .ref ro, .int 0]))]) hP hD [0, 2] [1, 3, 4] rfl rfl (by decide) (by decide) hk1 hFc hP1 hD1
  generalize H1 = H at hP hS ⊢
  have hP : va_P D zcl [(b3, .inl (dA 1, 250, .inl (fun _ => 0))), (ax, .inr (0, [.ref xt, .ref xp, .ref xs, .ref xl, .ref xb, .ref xk, .ref xm, .ref xq, .ref xg, .ref xf, .ref xe, .int 49])), (xb, .inl (dA 6, 3, .inr (.inr (.inr (.inr fb))))), (bk, .inr (5, [.int hd, .ref xl, .ref b1, .ref b2, .ref b3, .ref b4, .int 0, .int 0, .int 0])), (xl, .inr (2, [.ref bl, .ref no, .ref ro, .int 0]))] H := hP
  have hD : va_D A [(b3, .inl (dA 1, 250, .inl (fun _ => 0))), (ax, .inr (0, [.ref xt, .ref xp, .ref xs, .ref xl, .ref xb, .ref xk, .ref xm, .ref xq, .ref xg, .ref xf, .ref xe, .int 49])), (xb, .inl (dA 6, 3, .inr (.inr (.inr (.inr fb))))), (bk, .inr (5, [.int hd, .ref xl, .ref b1, .ref b2, .ref b3, .ref b4, .int 0, .int 0, .int 0])), (xl, .inr (2, [.ref bl, .ref no, .ref ro, .int 0]))] := hD
  obtain rfl : r_2 = (-1) := hpo
  refine lv_istore_n (lv' := [(3, .int (-1)), (2, .ref bk), (0, .ref ax), (1, .int (nI i))]) hx hb dX11_undo_10 rfl hl (by decide) rfl (fun ls hl => ?_)
  refine lv_iload_n hx hb dX11_undo_11 rfl (lv_at hl 0 rfl) ?_
  refine lv_iconst (v := (-1)) hx hb dX11_undo_12 (by decide) ?_
  refine lv_icmp_ne (tgt := 18) hx hb dX11_undo_13 (by decide) (fun zc => absurd (by decide) zc) (fun _ => ?_)
  refine lv_iconst (v := (-1)) hx hb dX11_undo_16 (by decide) ?_
  have hP9 := hP.sub (ws' := [(ax, .inr (0, [.ref xt, .ref xp, .ref xs, .ref xl, .ref xb, .ref xk, .ref xm, .ref xq, .ref xg, .ref xf, .ref xe, .int 49])), (xb, .inl (dA 6, 3, .inr (.inr (.inr (.inr fb))))), (bk, .inr (5, [.int hd, .ref xl, .ref b1, .ref b2, .ref b3, .ref b4, .int 0, .int 0, .int 0])), (b3, .inl (dA 1, 250, .inl (fun _ => 0))), (xl, .inr (2, [.ref bl, .ref no, .ref ro, .int 0]))]) [1, 2, 3, 0, 4] rfl
  have hD9 := hD.sub (ws' := [(ax, .inr (0, [.ref xt, .ref xp, .ref xs, .ref xl, .ref xb, .ref xk, .ref xm, .ref xq, .ref xg, .ref xf, .ref xe, .int 49])), (xb, .inl (dA 6, 3, .inr (.inr (.inr (.inr fb))))), (bk, .inr (5, [.int hd, .ref xl, .ref b1, .ref b2, .ref b3, .ref b4, .int 0, .int 0, .int 0])), (b3, .inl (dA 1, 250, .inl (fun _ => 0))), (xl, .inr (2, [.ref bl, .ref no, .ref ro, .int 0]))]) [1, 2, 3, 0, 4] (by decide) rfl
  exact W.iret (v := (-1)) hx hb hr (fun t ht hW => ⟨⟨(-1), (), rfl, rfl, by rw [ht]; exact hP9, hD9⟩, hS.F ht⟩) hS.2.2 dX11_undo_17
set_option maxHeartbeats 4000000 in
set_option maxRecDepth 100000 in
/-- known on a fresh object: ok -/
theorem c_known_ok (l : Launch) (D : va_G) (dA : Nat → ClassId) (dZ : Nat → Nat) (sz : Nat) (ax : Nat) (xt : Nat) (xp : Nat) (xs : Nat) (xl : Nat) (xb : Nat) (xk : Nat) (xm : Nat) (xq : Nat) (xg : Nat) (xf : Nat) (xe : Nat) (i : Nat) (fb : Nat → Option Nat) (bk : Nat) (b1 : Nat) (b2 : Nat) (b3 : Nat) (b4 : Nat) (hd : Int32) (bl : Nat) (no : Nat) (ro : Nat) (hi : i < 3) (hf : fb i = some bk) : Met l yX11_known (wz yX11_known cX11_known 2 (some .int)) ({ frames := 14, cells := 0, slots := 0, locals := 400 } : Room) (va_Pc [.ref ax, .int (nI i)] (zP D dA dZ [(ax, .inr (0, [.ref xt, .ref xp, .ref xs, .ref xl, .ref xb, .ref xk, .ref xm, .ref xq, .ref xg, .ref xf, .ref xe, .int 49])), (xb, .inl (dA 6, 3, .inr (.inr (.inr (.inr fb))))), (bk, .inr (5, [.int hd, .ref xl, .ref b1, .ref b2, .ref b3, .ref b4, .int 0, .int 0, .int 0])), (b3, .inl (dA 1, 250, .inl (fun _ => 0))), (xl, .inr (2, [.ref bl, .ref no, .ref ro, .int 0]))] sz)) (va_Qi (fun (r : Int32) (_ : Unit) => r = 0) (fun _ => zB D (va_A [(ax, .inr (0, [.ref xt, .ref xp, .ref xs, .ref xl, .ref xb, .ref xk, .ref xm, .ref xq, .ref xg, .ref xf, .ref xe, .int 49])), (xb, .inl (dA 6, 3, .inr (.inr (.inr (.inr fb))))), (bk, .inr (5, [.int hd, .ref xl, .ref b1, .ref b2, .ref b3, .ref b4, .int 0, .int 0, .int 0])), (b3, .inl (dA 1, 250, .inl (fun _ => 0))), (xl, .inr (2, [.ref bl, .ref no, .ref ro, .int 0]))] sz) [(ax, .inr (0, [.ref xt, .ref xp, .ref xs, .ref xl, .ref xb, .ref xk, .ref xm, .ref xq, .ref xg, .ref xf, .ref xe, .int 49])), (xb, .inl (dA 6, 3, .inr (.inr (.inr (.inr fb))))), (bk, .inr (5, [.int hd, .ref xl, .ref b1, .ref b2, .ref b3, .ref b4, .int 0, .int 0, .int 0])), (b3, .inl (dA 1, 250, .inl (fun _ => 0))), (xl, .inr (2, [.ref bl, .ref no, .ref ro, .int 0]))]) (va_A [(ax, .inr (0, [.ref xt, .ref xp, .ref xs, .ref xl, .ref xb, .ref xk, .ref xm, .ref xq, .ref xg, .ref xf, .ref xe, .int 49])), (xb, .inl (dA 6, 3, .inr (.inr (.inr (.inr fb))))), (bk, .inr (5, [.int hd, .ref xl, .ref b1, .ref b2, .ref b3, .ref b4, .int 0, .int 0, .int 0])), (b3, .inl (dA 1, 250, .inl (fun _ => 0))), (xl, .inr (2, [.ref bl, .ref no, .ref ro, .int 0]))] sz)) 0 0 (va_A [(ax, .inr (0, [.ref xt, .ref xp, .ref xs, .ref xl, .ref xb, .ref xk, .ref xm, .ref xq, .ref xg, .ref xf, .ref xe, .int 49])), (xb, .inl (dA 6, 3, .inr (.inr (.inr (.inr fb))))), (bk, .inr (5, [.int hd, .ref xl, .ref b1, .ref b2, .ref b3, .ref b4, .int 0, .int 0, .int 0])), (b3, .inl (dA 1, 250, .inl (fun _ => 0))), (xl, .inr (2, [.ref bl, .ref no, .ref ro, .int 0]))] sz) := by
  refine Met.ofW (cc := cX11_known) (maxL := 2) (ret := (some .int)) (by decide) rfl ?_
  intro p e s m args below meth c s₁ B hml hv
  obtain ⟨rfl, hsz, hP, hK, hD0, hT, hE⟩ := hv
  have hx := B.exec
  have hb := B.bytes
  have hr := B.returns
  have hw := wz_hw (atoms_spec (ws := wz yX11_known cX11_known 2 (some .int)) B.pre)
  have hown : s.vm.findClass "KindredBooks" = some m.cls := findClass_of_methodNamed B.named
  have hlocks := B.notSynchronized
  have hn := hT.1.use (args := ([.ref ax, .int (nI i)] : List Value).toArray)
  subst hsz
  have hD := hD0.self (sz := s.heap.size)
  generalize hAe : va_A [(ax, .inr (0, [.ref xt, .ref xp, .ref xs, .ref xl, .ref xb, .ref xk, .ref xm, .ref xq, .ref xg, .ref xf, .ref xe, .int 49])), (xb, .inl (dA 6, 3, .inr (.inr (.inr (.inr fb))))), (bk, .inr (5, [.int hd, .ref xl, .ref b1, .ref b2, .ref b3, .ref b4, .int 0, .int 0, .int 0])), (b3, .inl (dA 1, 250, .inl (fun _ => 0))), (xl, .inr (2, [.ref bl, .ref no, .ref ro, .int 0]))] s.heap.size = A at hD hE ⊢
  have hA : ∀ q : Nat, s.heap.size ≤ q → A q := fun q h => by rw [← hAe]; exact Or.inr h
  have hS : va_S A s.heap s.heap [] := va_S.rf
  replace hP : va_P D zcl [(ax, .inr (0, [.ref xt, .ref xp, .ref xs, .ref xl, .ref xb, .ref xk, .ref xm, .ref xq, .ref xg, .ref xf, .ref xe, .int 49])), (xb, .inl (dA 6, 3, .inr (.inr (.inr (.inr fb))))), (bk, .inr (5, [.int hd, .ref xl, .ref b1, .ref b2, .ref b3, .ref b4, .int 0, .int 0, .int 0])), (b3, .inl (dA 1, 250, .inl (fun _ => 0))), (xl, .inr (2, [.ref bl, .ref no, .ref ro, .int 0]))] s.heap := hP
  have hl := lv_entry ([.ref ax, .int (nI i)]) (n := 2) (Nat.le_of_ble_eq_true rfl)
  rw [lg_entry_eq]
  generalize (lg_sl ([.ref ax, .int (nI i)]) ++ List.replicate (2 - (lg_sl ([.ref ax, .int (nI i)])).length) Slot.unset).toArray = ls at hl ⊢
  replace hl : lv_has ls 2 [(0, .ref ax), (1, .int (nI i))] := hl
  refine lv_aload_n hx hb dX11_known_0 rfl (lv_at hl 0 rfl) ?_
  refine lv_iload_n hx hb dX11_known_1 rfl (lv_at hl 1 rfl) ?_
  have hPc := hP.sub (ws' := [(ax, .inr (0, [.ref xt, .ref xp, .ref xs, .ref xl, .ref xb, .ref xk, .ref xm, .ref xq, .ref xg, .ref xf, .ref xe, .int 49])), (xb, .inl (dA 6, 3, .inr (.inr (.inr (.inr fb)))))]) [0, 1] rfl
  have hDc := hD.sub (ws' := [(ax, .inr (0, [.ref xt, .ref xp, .ref xs, .ref xl, .ref xb, .ref xk, .ref xm, .ref xq, .ref xg, .ref xf, .ref xe, .int 49])), (xb, .inl (dA 6, 3, .inr (.inr (.inr (.inr fb)))))]) [0, 1] (by decide) rfl
  have hFc := va_free (wc := [(ax, .inr (0, [.ref xt, .ref xp, .ref xs, .ref xl, .ref xb, .ref xk, .ref xm, .ref xq, .ref xg, .ref xf, .ref xe, .int 49])), (xb, .inl (dA 6, 3, .inr (.inr (.inr (.inr fb)))))]) hD hS hA [0, 1] rfl
  refine va_callq (va_runV (As := [.int (nI i)]) (rest := []) ⟨hx, hb, hml, hown, hw⟩ (c_bookOf l D dA dZ _ ax xt xp xs xl xb xk xm xq xg xf xe i fb bk hi hf) (z_cwV 1 hw mw_603 mw_605 ms_3 mw_1 mw_606 rfl rfl (by decide +kernel) ⟨Nat.le_of_ble_eq_true rfl, Nat.le_of_ble_eq_true rfl⟩) (zPreV hPc hK hDc hT hE hS hFc (va_recv hK hP (ci := 0) (q0 := 0) rfl rfl)) rfl rfl hl.1 rfl (lv_room (Nat.le_of_ble_eq_true rfl)) dX11_known_2 ⟨Nat.le_of_ble_eq_true rfl, Nat.le_of_ble_eq_true rfl⟩) hS (fun q _ h => hFc q h) hFc (fun r_1 u t H1 locs ht hvm hpo hB hz1 hk1 hS => ?_)
  obtain ⟨hP1, hD1⟩ := hB
  rw [ht] at hP1
  obtain ⟨hP, hD⟩ := va_join (wr := [(bk, .inr (5, [.int hd, .ref xl, .ref b1, .ref b2, .ref b3, .ref b4, .int 0, .int 0, .int 0])), (b3, .inl (dA 1, 250, .inl (fun _ => 0))), (xl, .inr (2, [.ref bl, .ref no, .ref ro, .int 0]))]) (w1 := [(ax, .inr (0, [.ref xt, .ref xp, .ref xs, .ref xl, .ref xb, .ref xk, .ref xm, .ref xq, .ref xg, .ref xf, .ref xe, .int 49])), (xb, .inl (dA 6, 3, .inr (.inr (.inr (.inr fb)))))]) hP hD [0, 1] [2, 3, 4] rfl rfl (by decide) (by decide) hk1 hFc hP1 hD1
  generalize H1 = H at hP hS ⊢
  have hP : va_P D zcl [(bk, .inr (5, [.int hd, .ref xl, .ref b1, .ref b2, .ref b3, .ref b4, .int 0, .int 0, .int 0])), (b3, .inl (dA 1, 250, .inl (fun _ => 0))), (xl, .inr (2, [.ref bl, .ref no, .ref ro, .int 0])), (ax, .inr (0, [.ref xt, .ref xp, .ref xs, .ref xl, .ref xb, .ref xk, .ref xm, .ref xq, .ref xg, .ref xf, .ref xe, .int 49])), (xb, .inl (dA 6, 3, .inr (.inr (.inr (.inr fb)))))] H := hP
  have hD : va_D A [(bk, .inr (5, [.int hd, .ref xl, .ref b1, .ref b2, .ref b3, .ref b4, .int 0, .int 0, .int 0])), (b3, .inl (dA 1, 250, .inl (fun _ => 0))), (xl, .inr (2, [.ref bl, .ref no, .ref ro, .int 0])), (ax, .inr (0, [.ref xt, .ref xp, .ref xs, .ref xl, .ref xb, .ref xk, .ref xm, .ref xq, .ref xg, .ref xf, .ref xe, .int 49])), (xb, .inl (dA 6, 3, .inr (.inr (.inr (.inr fb)))))] := hD
  obtain rfl : r_1 = (some bk) := hpo
  refine va_getN (D := D) (ci := 5) (v := .int 0) (C := "KindredBooks$Book") (T := T_zk5) (N := 9) hx hb hw in_zk5 hown hK hP 0 rfl rfl 6 (by decide) (hn _ mn_276) (fun _ h9 => h9) rfl dX11_known_5 ?_
  have hP9 := hP.sub (ws' := [(ax, .inr (0, [.ref xt, .ref xp, .ref xs, .ref xl, .ref xb, .ref xk, .ref xm, .ref xq, .ref xg, .ref xf, .ref xe, .int 49])), (xb, .inl (dA 6, 3, .inr (.inr (.inr (.inr fb))))), (bk, .inr (5, [.int hd, .ref xl, .ref b1, .ref b2, .ref b3, .ref b4, .int 0, .int 0, .int 0])), (b3, .inl (dA 1, 250, .inl (fun _ => 0))), (xl, .inr (2, [.ref bl, .ref no, .ref ro, .int 0]))]) [3, 4, 0, 1, 2] rfl
  have hD9 := hD.sub (ws' := [(ax, .inr (0, [.ref xt, .ref xp, .ref xs, .ref xl, .ref xb, .ref xk, .ref xm, .ref xq, .ref xg, .ref xf, .ref xe, .int 49])), (xb, .inl (dA 6, 3, .inr (.inr (.inr (.inr fb))))), (bk, .inr (5, [.int hd, .ref xl, .ref b1, .ref b2, .ref b3, .ref b4, .int 0, .int 0, .int 0])), (b3, .inl (dA 1, 250, .inl (fun _ => 0))), (xl, .inr (2, [.ref bl, .ref no, .ref ro, .int 0]))]) [3, 4, 0, 1, 2] (by decide) rfl
  exact W.iret (v := 0) hx hb hr (fun t ht hW => ⟨⟨0, (), rfl, rfl, by rw [ht]; exact hP9, hD9⟩, hS.F ht⟩) hS.2.2 dX11_known_8
set_option maxHeartbeats 4000000 in
set_option maxRecDepth 100000 in
/-- learnFrom with an empty ledger -/
theorem c_learnFrom0 (l : Launch) (D : va_G) (dA : Nat → ClassId) (dZ : Nat → Nat) (sz : Nat) (bk : Nat) (xl : Nat) (o9 : Nat) (b1 : Nat) (b2 : Nat) (b3 : Nat) (b4 : Nat) (hd : Int32) (bl : Nat) (no : Nat) (ro : Nat) : Met l yX1_learnFrom (wz yX1_learnFrom cX1_learnFrom 4 (some .int)) ({ frames := 0, cells := 0, slots := 0, locals := 0 } : Room) (va_Pc [.ref bk, .ref o9] (zP D dA dZ [(bk, .inr (5, [.int hd, .ref xl, .ref b1, .ref b2, .ref b3, .ref b4, .int 0, .int 0, .int 0])), (xl, .inr (2, [.ref bl, .ref no, .ref ro, .int 0]))] sz)) (va_Qi (fun (r : Int32) (_ : Unit) => r = 0) (fun _ => zB D (va_A [(bk, .inr (5, [.int hd, .ref xl, .ref b1, .ref b2, .ref b3, .ref b4, .int 0, .int 0, .int 0])), (xl, .inr (2, [.ref bl, .ref no, .ref ro, .int 0]))] sz) [(bk, .inr (5, [.int hd, .ref xl, .ref b1, .ref b2, .ref b3, .ref b4, .int 0, .int 0, .int 0])), (xl, .inr (2, [.ref bl, .ref no, .ref ro, .int 0]))]) (va_A [(bk, .inr (5, [.int hd, .ref xl, .ref b1, .ref b2, .ref b3, .ref b4, .int 0, .int 0, .int 0])), (xl, .inr (2, [.ref bl, .ref no, .ref ro, .int 0]))] sz)) 0 0 (va_A [(bk, .inr (5, [.int hd, .ref xl, .ref b1, .ref b2, .ref b3, .ref b4, .int 0, .int 0, .int 0])), (xl, .inr (2, [.ref bl, .ref no, .ref ro, .int 0]))] sz) := by
  refine Met.ofW (cc := cX1_learnFrom) (maxL := 4) (ret := (some .int)) (by decide) rfl ?_
  intro p e s m args below meth c s₁ B hml hv
  obtain ⟨rfl, hsz, hP, hK, hD0, hT, hE⟩ := hv
  have hx := B.exec
  have hb := B.bytes
  have hr := B.returns
  have hw := wz_hw (atoms_spec (ws := wz yX1_learnFrom cX1_learnFrom 4 (some .int)) B.pre)
  have hown : s.vm.findClass "KindredBooks$Book" = some m.cls := findClass_of_methodNamed B.named
  have hlocks := B.notSynchronized
  have hn := hT.1.use (args := ([.ref bk, .ref o9] : List Value).toArray)
  subst hsz
  have hD := hD0.self (sz := s.heap.size)
  generalize hAe : va_A [(bk, .inr (5, [.int hd, .ref xl, .ref b1, .ref b2, .ref b3, .ref b4, .int 0, .int 0, .int 0])), (xl, .inr (2, [.ref bl, .ref no, .ref ro, .int 0]))] s.heap.size = A at hD hE ⊢
  have hA : ∀ q : Nat, s.heap.size ≤ q → A q := fun q h => by rw [← hAe]; exact Or.inr h
  have hS : va_S A s.heap s.heap [] := va_S.rf
  replace hP : va_P D zcl [(bk, .inr (5, [.int hd, .ref xl, .ref b1, .ref b2, .ref b3, .ref b4, .int 0, .int 0, .int 0])), (xl, .inr (2, [.ref bl, .ref no, .ref ro, .int 0]))] s.heap := hP
  have hl := lv_entry ([.ref bk, .ref o9]) (n := 4) (Nat.le_of_ble_eq_true rfl)
  rw [lg_entry_eq]
  generalize (lg_sl ([.ref bk, .ref o9]) ++ List.replicate (4 - (lg_sl ([.ref bk, .ref o9])).length) Slot.unset).toArray = ls at hl ⊢
  replace hl : lv_has ls 4 [(0, .ref bk), (1, .ref o9)] := hl
  refine lv_aload_n hx hb dX1_learnFrom_0 rfl (lv_at hl 0 rfl) ?_
  refine va_get (D := D) (ci := 5) (v := .int 0) (C := "KindredBooks$Book") (T := T_zk5) (N := 9) hx hb hw in_zk5 hown hK hP 0 rfl rfl 6 (by decide) (hw _ mw_275) (fun _ h9 => h9) rfl dX1_learnFrom_1 ?_
  refine lv_istore_n (lv' := [(2, .int 0), (0, .ref bk), (1, .ref o9)]) hx hb dX1_learnFrom_4 rfl hl (by decide) rfl (fun ls hl => ?_)
  refine lv_iconst (v := 0) hx hb dX1_learnFrom_5 (by decide) ?_
  refine lv_istore_n (lv' := [(3, .int 0), (2, .int 0), (0, .ref bk), (1, .ref o9)]) hx hb dX1_learnFrom_6 rfl hl (by decide) rfl (fun ls hl => ?_)
  refine lv_iload_n hx hb dX1_learnFrom_7 rfl (lv_at hl 0 rfl) ?_
  refine lv_aload_n hx hb dX1_learnFrom_8 rfl (lv_at hl 2 rfl) ?_
  refine va_get (D := D) (ci := 5) (v := .ref xl) (C := "KindredBooks$Book") (T := T_zk5) (N := 9) hx hb hw in_zk5 hown hK hP 0 rfl rfl 1 (by decide) (hw _ mw_269) (fun _ h9 => h9) rfl dX1_learnFrom_9 ?_
  refine va_getN (D := D) (ci := 2) (v := .int 0) (C := "KindredBooks$Ledger") (T := T_zk2) (N := 4) hx hb hw in_zk2 hown hK hP 1 rfl rfl 3 (by decide) (hn _ mn_169) (fun _ h9 => h9) rfl dX1_learnFrom_12 ?_
  refine lv_icmp_ge (tgt := 52) hx hb dX1_learnFrom_15 (by decide) (fun _ => ?_) (fun zc => absurd (by decide) zc)
  refine lv_aload_n hx hb dX1_learnFrom_52 rfl (lv_at hl 2 rfl) ?_
  refine va_get (D := D) (ci := 5) (v := .int 0) (C := "KindredBooks$Book") (T := T_zk5) (N := 9) hx hb hw in_zk5 hown hK hP 0 rfl rfl 6 (by decide) (hw _ mw_275) (fun _ h9 => h9) rfl dX1_learnFrom_53 ?_
  refine lv_iload_n hx hb dX1_learnFrom_56 rfl (lv_at hl 1 rfl) ?_
  refine lv_icmp_le (tgt := 64) hx hb dX1_learnFrom_57 (by decide) (fun _ => ?_) (fun zc => absurd (by decide) zc)
  refine lv_aload_n hx hb dX1_learnFrom_64 rfl (lv_at hl 2 rfl) ?_
  refine va_get (D := D) (ci := 5) (v := .int 0) (C := "KindredBooks$Book") (T := T_zk5) (N := 9) hx hb hw in_zk5 hown hK hP 0 rfl rfl 6 (by decide) (hw _ mw_275) (fun _ h9 => h9) rfl dX1_learnFrom_65 ?_
  refine lv_iload_n hx hb dX1_learnFrom_68 rfl (lv_at hl 1 rfl) ?_
  refine lv_isub hx hb dX1_learnFrom_69 ?_
  refine lv_topi (fun v_1 ev_1 => ?_)
  obtain rfl : v_1 = 0 := ev_1.trans (by decide)
  have hP9 := hP.sub (ws' := [(bk, .inr (5, [.int hd, .ref xl, .ref b1, .ref b2, .ref b3, .ref b4, .int 0, .int 0, .int 0])), (xl, .inr (2, [.ref bl, .ref no, .ref ro, .int 0]))]) [0, 1] rfl
  have hD9 := hD.sub (ws' := [(bk, .inr (5, [.int hd, .ref xl, .ref b1, .ref b2, .ref b3, .ref b4, .int 0, .int 0, .int 0])), (xl, .inr (2, [.ref bl, .ref no, .ref ro, .int 0]))]) [0, 1] (by decide) rfl
  exact W.iret (v := 0) hx hb hr (fun t ht hW => ⟨⟨0, (), rfl, rfl, by rw [ht]; exact hP9, hD9⟩, hS.F ht⟩) hS.2.2 dX1_learnFrom_70
set_option maxHeartbeats 4000000 in
set_option maxRecDepth 100000 in
/-- knowsTheSame with an empty ledger -/
theorem c_knowsTheSame0 (l : Launch) (D : va_G) (dA : Nat → ClassId) (dZ : Nat → Nat) (sz : Nat) (bk : Nat) (xl : Nat) (o9 : Nat) (b1 : Nat) (b2 : Nat) (b3 : Nat) (b4 : Nat) (hd : Int32) (bl : Nat) (no : Nat) (ro : Nat) : Met l yX1_knowsTheSame (wz yX1_knowsTheSame cX1_knowsTheSame 3 (some .boolean)) ({ frames := 0, cells := 0, slots := 0, locals := 0 } : Room) (va_Pc [.ref bk, .ref o9] (zP D dA dZ [(bk, .inr (5, [.int hd, .ref xl, .ref b1, .ref b2, .ref b3, .ref b4, .int 0, .int 0, .int 0])), (xl, .inr (2, [.ref bl, .ref no, .ref ro, .int 0]))] sz)) (va_Qi (fun (r : Int32) (_ : Unit) => r = 1) (fun _ => zB D (va_A [(bk, .inr (5, [.int hd, .ref xl, .ref b1, .ref b2, .ref b3, .ref b4, .int 0, .int 0, .int 0])), (xl, .inr (2, [.ref bl, .ref no, .ref ro, .int 0]))] sz) [(bk, .inr (5, [.int hd, .ref xl, .ref b1, .ref b2, .ref b3, .ref b4, .int 0, .int 0, .int 0])), (xl, .inr (2, [.ref bl, .ref no, .ref ro, .int 0]))]) (va_A [(bk, .inr (5, [.int hd, .ref xl, .ref b1, .ref b2, .ref b3, .ref b4, .int 0, .int 0, .int 0])), (xl, .inr (2, [.ref bl, .ref no, .ref ro, .int 0]))] sz)) 0 0 (va_A [(bk, .inr (5, [.int hd, .ref xl, .ref b1, .ref b2, .ref b3, .ref b4, .int 0, .int 0, .int 0])), (xl, .inr (2, [.ref bl, .ref no, .ref ro, .int 0]))] sz) := by
  refine Met.ofW (cc := cX1_knowsTheSame) (maxL := 3) (ret := (some .boolean)) (by decide) rfl ?_
  intro p e s m args below meth c s₁ B hml hv
  obtain ⟨rfl, hsz, hP, hK, hD0, hT, hE⟩ := hv
  have hx := B.exec
  have hb := B.bytes
  have hr := B.returns
  have hw := wz_hw (atoms_spec (ws := wz yX1_knowsTheSame cX1_knowsTheSame 3 (some .boolean)) B.pre)
  have hown : s.vm.findClass "KindredBooks$Book" = some m.cls := findClass_of_methodNamed B.named
  have hlocks := B.notSynchronized
  have hn := hT.1.use (args := ([.ref bk, .ref o9] : List Value).toArray)
  subst hsz
  have hD := hD0.self (sz := s.heap.size)
  generalize hAe : va_A [(bk, .inr (5, [.int hd, .ref xl, .ref b1, .ref b2, .ref b3, .ref b4, .int 0, .int 0, .int 0])), (xl, .inr (2, [.ref bl, .ref no, .ref ro, .int 0]))] s.heap.size = A at hD hE ⊢
  have hA : ∀ q : Nat, s.heap.size ≤ q → A q := fun q h => by rw [← hAe]; exact Or.inr h
  have hS : va_S A s.heap s.heap [] := va_S.rf
  replace hP : va_P D zcl [(bk, .inr (5, [.int hd, .ref xl, .ref b1, .ref b2, .ref b3, .ref b4, .int 0, .int 0, .int 0])), (xl, .inr (2, [.ref bl, .ref no, .ref ro, .int 0]))] s.heap := hP
  have hl := lv_entry ([.ref bk, .ref o9]) (n := 3) (Nat.le_of_ble_eq_true rfl)
  rw [lg_entry_eq]
  generalize (lg_sl ([.ref bk, .ref o9]) ++ List.replicate (3 - (lg_sl ([.ref bk, .ref o9])).length) Slot.unset).toArray = ls at hl ⊢
  replace hl : lv_has ls 3 [(0, .ref bk), (1, .ref o9)] := hl
  refine lv_iconst (v := 0) hx hb dX1_knowsTheSame_0 (by decide) ?_
  refine lv_istore_n (lv' := [(2, .int 0), (0, .ref bk), (1, .ref o9)]) hx hb dX1_knowsTheSame_1 rfl hl (by decide) rfl (fun ls hl => ?_)
  refine lv_iload_n hx hb dX1_knowsTheSame_2 rfl (lv_at hl 0 rfl) ?_
  refine lv_aload_n hx hb dX1_knowsTheSame_3 rfl (lv_at hl 1 rfl) ?_
  refine va_get (D := D) (ci := 5) (v := .ref xl) (C := "KindredBooks$Book") (T := T_zk5) (N := 9) hx hb hw in_zk5 hown hK hP 0 rfl rfl 1 (by decide) (hw _ mw_269) (fun _ h9 => h9) rfl dX1_knowsTheSame_4 ?_
  refine va_getN (D := D) (ci := 2) (v := .int 0) (C := "KindredBooks$Ledger") (T := T_zk2) (N := 4) hx hb hw in_zk2 hown hK hP 1 rfl rfl 3 (by decide) (hn _ mn_169) (fun _ h9 => h9) rfl dX1_knowsTheSame_7 ?_
  refine lv_icmp_ge (tgt := 34) hx hb dX1_knowsTheSame_10 (by decide) (fun _ => ?_) (fun zc => absurd (by decide) zc)
  refine lv_iconst (v := 1) hx hb dX1_knowsTheSame_34 (by decide) ?_
  have hP9 := hP.sub (ws' := [(bk, .inr (5, [.int hd, .ref xl, .ref b1, .ref b2, .ref b3, .ref b4, .int 0, .int 0, .int 0])), (xl, .inr (2, [.ref bl, .ref no, .ref ro, .int 0]))]) [0, 1] rfl
  have hD9 := hD.sub (ws' := [(bk, .inr (5, [.int hd, .ref xl, .ref b1, .ref b2, .ref b3, .ref b4, .int 0, .int 0, .int 0])), (xl, .inr (2, [.ref bl, .ref no, .ref ro, .int 0]))]) [0, 1] (by decide) rfl
  exact W.zret (v := 1) hx hb hr rfl (fun t ht hW => ⟨⟨1, (), rfl, rfl, by rw [ht]; exact hP9, hD9⟩, hS.F ht⟩) hS.2.2 dX1_knowsTheSame_35
set_option maxHeartbeats 4000000 in
set_option maxRecDepth 100000 in
/-- hear on a fresh object: ok -/
theorem c_hear_ok (l : Launch) (D : va_G) (dA : Nat → ClassId) (dZ : Nat → Nat) (sz : Nat) (ax : Nat) (xt : Nat) (xp : Nat) (xs : Nat) (xl : Nat) (xb : Nat) (xk : Nat) (xm : Nat) (xq : Nat) (xg : Nat) (xf : Nat) (xe : Nat) (i : Nat) (fb : Nat → Option Nat) (bk : Nat) (b1 : Nat) (b2 : Nat) (b3 : Nat) (b4 : Nat) (hd : Int32) (bl : Nat) (no : Nat) (ro : Nat) (j : Nat) (bj : Nat) (hi : i < 3) (hf : fb i = some bk) (hj : j < 3) (hg : fb j = some bj) : Met l yX11_hear (wz yX11_hear cX11_hear 4 (some .int)) ({ frames := 14, cells := 0, slots := 0, locals := 400 } : Room) (va_Pc [.ref ax, .int (nI i), .int (nI j)] (zP D dA dZ [(ax, .inr (0, [.ref xt, .ref xp, .ref xs, .ref xl, .ref xb, .ref xk, .ref xm, .ref xq, .ref xg, .ref xf, .ref xe, .int 49])), (xb, .inl (dA 6, 3, .inr (.inr (.inr (.inr fb))))), (bk, .inr (5, [.int hd, .ref xl, .ref b1, .ref b2, .ref b3, .ref b4, .int 0, .int 0, .int 0])), (b3, .inl (dA 1, 250, .inl (fun _ => 0))), (xl, .inr (2, [.ref bl, .ref no, .ref ro, .int 0]))] sz)) (va_Qi (fun (r : Int32) (_ : Unit) => r = 0) (fun _ => zB D (va_A [(ax, .inr (0, [.ref xt, .ref xp, .ref xs, .ref xl, .ref xb, .ref xk, .ref xm, .ref xq, .ref xg, .ref xf, .ref xe, .int 49])), (xb, .inl (dA 6, 3, .inr (.inr (.inr (.inr fb))))), (bk, .inr (5, [.int hd, .ref xl, .ref b1, .ref b2, .ref b3, .ref b4, .int 0, .int 0, .int 0])), (b3, .inl (dA 1, 250, .inl (fun _ => 0))), (xl, .inr (2, [.ref bl, .ref no, .ref ro, .int 0]))] sz) [(ax, .inr (0, [.ref xt, .ref xp, .ref xs, .ref xl, .ref xb, .ref xk, .ref xm, .ref xq, .ref xg, .ref xf, .ref xe, .int 49])), (xb, .inl (dA 6, 3, .inr (.inr (.inr (.inr fb))))), (bk, .inr (5, [.int hd, .ref xl, .ref b1, .ref b2, .ref b3, .ref b4, .int 0, .int 0, .int 0])), (b3, .inl (dA 1, 250, .inl (fun _ => 0))), (xl, .inr (2, [.ref bl, .ref no, .ref ro, .int 0]))]) (va_A [(ax, .inr (0, [.ref xt, .ref xp, .ref xs, .ref xl, .ref xb, .ref xk, .ref xm, .ref xq, .ref xg, .ref xf, .ref xe, .int 49])), (xb, .inl (dA 6, 3, .inr (.inr (.inr (.inr fb))))), (bk, .inr (5, [.int hd, .ref xl, .ref b1, .ref b2, .ref b3, .ref b4, .int 0, .int 0, .int 0])), (b3, .inl (dA 1, 250, .inl (fun _ => 0))), (xl, .inr (2, [.ref bl, .ref no, .ref ro, .int 0]))] sz)) 0 0 (va_A [(ax, .inr (0, [.ref xt, .ref xp, .ref xs, .ref xl, .ref xb, .ref xk, .ref xm, .ref xq, .ref xg, .ref xf, .ref xe, .int 49])), (xb, .inl (dA 6, 3, .inr (.inr (.inr (.inr fb))))), (bk, .inr (5, [.int hd, .ref xl, .ref b1, .ref b2, .ref b3, .ref b4, .int 0, .int 0, .int 0])), (b3, .inl (dA 1, 250, .inl (fun _ => 0))), (xl, .inr (2, [.ref bl, .ref no, .ref ro, .int 0]))] sz) := by
  refine Met.ofW (cc := cX11_hear) (maxL := 4) (ret := (some .int)) (by decide) rfl ?_
  intro p e s m args below meth c s₁ B hml hv
  obtain ⟨rfl, hsz, hP, hK, hD0, hT, hE⟩ := hv
  have hx := B.exec
  have hb := B.bytes
  have hr := B.returns
  have hw := wz_hw (atoms_spec (ws := wz yX11_hear cX11_hear 4 (some .int)) B.pre)
  have hown : s.vm.findClass "KindredBooks" = some m.cls := findClass_of_methodNamed B.named
  have hlocks := B.notSynchronized
  have hn := hT.1.use (args := ([.ref ax, .int (nI i), .int (nI j)] : List Value).toArray)
  subst hsz
  have hD := hD0.self (sz := s.heap.size)
  generalize hAe : va_A [(ax, .inr (0, [.ref xt, .ref xp, .ref xs, .ref xl, .ref xb, .ref xk, .ref xm, .ref xq, .ref xg, .ref xf, .ref xe, .int 49])), (xb, .inl (dA 6, 3, .inr (.inr (.inr (.inr fb))))), (bk, .inr (5, [.int hd, .ref xl, .ref b1, .ref b2, .ref b3, .ref b4, .int 0, .int 0, .int 0])), (b3, .inl (dA 1, 250, .inl (fun _ => 0))), (xl, .inr (2, [.ref bl, .ref no, .ref ro, .int 0]))] s.heap.size = A at hD hE ⊢
  have hA : ∀ q : Nat, s.heap.size ≤ q → A q := fun q h => by rw [← hAe]; exact Or.inr h
  have hS : va_S A s.heap s.heap [] := va_S.rf
  replace hP : va_P D zcl [(ax, .inr (0, [.ref xt, .ref xp, .ref xs, .ref xl, .ref xb, .ref xk, .ref xm, .ref xq, .ref xg, .ref xf, .ref xe, .int 49])), (xb, .inl (dA 6, 3, .inr (.inr (.inr (.inr fb))))), (bk, .inr (5, [.int hd, .ref xl, .ref b1, .ref b2, .ref b3, .ref b4, .int 0, .int 0, .int 0])), (b3, .inl (dA 1, 250, .inl (fun _ => 0))), (xl, .inr (2, [.ref bl, .ref no, .ref ro, .int 0]))] s.heap := hP
  have hl := lv_entry ([.ref ax, .int (nI i), .int (nI j)]) (n := 4) (Nat.le_of_ble_eq_true rfl)
  rw [lg_entry_eq]
  generalize (lg_sl ([.ref ax, .int (nI i), .int (nI j)]) ++ List.replicate (4 - (lg_sl ([.ref ax, .int (nI i), .int (nI j)])).length) Slot.unset).toArray = ls at hl ⊢
  replace hl : lv_has ls 4 [(0, .ref ax), (1, .int (nI i)), (2, .int (nI j))] := hl
  refine lv_aload_n hx hb dX11_hear_0 rfl (lv_at hl 0 rfl) ?_
  refine lv_iload_n hx hb dX11_hear_1 rfl (lv_at hl 1 rfl) ?_
  have hPc := hP.sub (ws' := [(ax, .inr (0, [.ref xt, .ref xp, .ref xs, .ref xl, .ref xb, .ref xk, .ref xm, .ref xq, .ref xg, .ref xf, .ref xe, .int 49])), (xb, .inl (dA 6, 3, .inr (.inr (.inr (.inr fb)))))]) [0, 1] rfl
  have hDc := hD.sub (ws' := [(ax, .inr (0, [.ref xt, .ref xp, .ref xs, .ref xl, .ref xb, .ref xk, .ref xm, .ref xq, .ref xg, .ref xf, .ref xe, .int 49])), (xb, .inl (dA 6, 3, .inr (.inr (.inr (.inr fb)))))]) [0, 1] (by decide) rfl
  have hFc := va_free (wc := [(ax, .inr (0, [.ref xt, .ref xp, .ref xs, .ref xl, .ref xb, .ref xk, .ref xm, .ref xq, .ref xg, .ref xf, .ref xe, .int 49])), (xb, .inl (dA 6, 3, .inr (.inr (.inr (.inr fb)))))]) hD hS hA [0, 1] rfl
  refine va_callq (va_runV (As := [.int (nI i)]) (rest := []) ⟨hx, hb, hml, hown, hw⟩ (c_bookOf l D dA dZ _ ax xt xp xs xl xb xk xm xq xg xf xe i fb bk hi hf) (z_cwV 1 hw mw_603 mw_605 ms_3 mw_1 mw_606 rfl rfl (by decide +kernel) ⟨Nat.le_of_ble_eq_true rfl, Nat.le_of_ble_eq_true rfl⟩) (zPreV hPc hK hDc hT hE hS hFc (va_recv hK hP (ci := 0) (q0 := 0) rfl rfl)) rfl rfl hl.1 rfl (lv_room (Nat.le_of_ble_eq_true rfl)) dX11_hear_2 ⟨Nat.le_of_ble_eq_true rfl, Nat.le_of_ble_eq_true rfl⟩) hS (fun q _ h => hFc q h) hFc (fun r_1 u t H1 locs ht hvm hpo hB hz1 hk1 hS => ?_)
  obtain ⟨hP1, hD1⟩ := hB
  rw [ht] at hP1
  obtain ⟨hP, hD⟩ := va_join (wr := [(bk, .inr (5, [.int hd, .ref xl, .ref b1, .ref b2, .ref b3, .ref b4, .int 0, .int 0, .int 0])), (b3, .inl (dA 1, 250, .inl (fun _ => 0))), (xl, .inr (2, [.ref bl, .ref no, .ref ro, .int 0]))]) (w1 := [(ax, .inr (0, [.ref xt, .ref xp, .ref xs, .ref xl, .ref xb, .ref xk, .ref xm, .ref xq, .ref xg, .ref xf, .ref xe, .int 49])), (xb, .inl (dA 6, 3, .inr (.inr (.inr (.inr fb)))))]) hP hD [0, 1] [2, 3, 4] rfl rfl (by decide) (by decide) hk1 hFc hP1 hD1
  generalize H1 = H at hP hS ⊢
  have hP : va_P D zcl [(bk, .inr (5, [.int hd, .ref xl, .ref b1, .ref b2, .ref b3, .ref b4, .int 0, .int 0, .int 0])), (b3, .inl (dA 1, 250, .inl (fun _ => 0))), (xl, .inr (2, [.ref bl, .ref no, .ref ro, .int 0])), (ax, .inr (0, [.ref xt, .ref xp, .ref xs, .ref xl, .ref xb, .ref xk, .ref xm, .ref xq, .ref xg, .ref xf, .ref xe, .int 49])), (xb, .inl (dA 6, 3, .inr (.inr (.inr (.inr fb)))))] H := hP
  have hD : va_D A [(bk, .inr (5, [.int hd, .ref xl, .ref b1, .ref b2, .ref b3, .ref b4, .int 0, .int 0, .int 0])), (b3, .inl (dA 1, 250, .inl (fun _ => 0))), (xl, .inr (2, [.ref bl, .ref no, .ref ro, .int 0])), (ax, .inr (0, [.ref xt, .ref xp, .ref xs, .ref xl, .ref xb, .ref xk, .ref xm, .ref xq, .ref xg, .ref xf, .ref xe, .int 49])), (xb, .inl (dA 6, 3, .inr (.inr (.inr (.inr fb)))))] := hD
  obtain rfl : r_1 = (some bk) := hpo
  refine lv_astore_n (lv' := [(3, .ref bk), (0, .ref ax), (1, .int (nI i)), (2, .int (nI j))]) hx hb dX11_hear_5 rfl hl (by decide) rfl (fun ls hl => ?_)
  refine lv_aload_n hx hb dX11_hear_6 rfl (lv_at hl 0 rfl) ?_
  refine lv_aload_n hx hb dX11_hear_7 rfl (lv_at hl 1 rfl) ?_
  refine lv_iload_n hx hb dX11_hear_8 rfl (lv_at hl 3 rfl) ?_
  have hPc := hP.sub (ws' := [(ax, .inr (0, [.ref xt, .ref xp, .ref xs, .ref xl, .ref xb, .ref xk, .ref xm, .ref xq, .ref xg, .ref xf, .ref xe, .int 49])), (xb, .inl (dA 6, 3, .inr (.inr (.inr (.inr fb)))))]) [3, 4] rfl
  have hDc := hD.sub (ws' := [(ax, .inr (0, [.ref xt, .ref xp, .ref xs, .ref xl, .ref xb, .ref xk, .ref xm, .ref xq, .ref xg, .ref xf, .ref xe, .int 49])), (xb, .inl (dA 6, 3, .inr (.inr (.inr (.inr fb)))))]) [3, 4] (by decide) rfl
  have hFc := va_free (wc := [(ax, .inr (0, [.ref xt, .ref xp, .ref xs, .ref xl, .ref xb, .ref xk, .ref xm, .ref xq, .ref xg, .ref xf, .ref xe, .int 49])), (xb, .inl (dA 6, 3, .inr (.inr (.inr (.inr fb)))))]) hD hS hA [3, 4] rfl
  refine va_callq (va_runV (As := [.int (nI j)]) (rest := [.ref bk]) ⟨hx, hb, hml, hown, hw⟩ (c_bookOf l D dA dZ _ ax xt xp xs xl xb xk xm xq xg xf xe j fb bj hj hg) (z_cwV 1 hw mw_603 mw_605 ms_3 mw_1 mw_606 rfl rfl (by decide +kernel) ⟨Nat.le_of_ble_eq_true rfl, Nat.le_of_ble_eq_true rfl⟩) (zPreV hPc hK hDc hT hE hS hFc (va_recv hK hP (ci := 0) (q0 := 3) rfl rfl)) rfl rfl hl.1 rfl (lv_room (Nat.le_of_ble_eq_true rfl)) dX11_hear_9 ⟨Nat.le_of_ble_eq_true rfl, Nat.le_of_ble_eq_true rfl⟩) hS (fun q _ h => hFc q h) hFc (fun r_2 u t H1 locs ht hvm hpo hB hz1 hk1 hS => ?_)
  obtain ⟨hP1, hD1⟩ := hB
  rw [ht] at hP1
  obtain ⟨hP, hD⟩ := va_join (wr := [(bk, .inr (5, [.int hd, .ref xl, .ref b1, .ref b2, .ref b3, .ref b4, .int 0, .int 0, .int 0])), (b3, .inl (dA 1, 250, .inl (fun _ => 0))), (xl, .inr (2, [.ref bl, .ref no, .ref ro, .int 0]))]) (w1 := [(ax, .inr (0, [.ref xt, .ref xp, .ref xs, .ref xl, .ref xb, .ref xk, .ref xm, .ref xq, .ref xg, .ref xf, .ref xe, .int 49])), (xb, .inl (dA 6, 3, .inr (.inr (.inr (.inr fb)))))]) hP hD [3, 4] [0, 1, 2] rfl rfl (by decide) (by decide) hk1 hFc hP1 hD1
  generalize H1 = H at hP hS ⊢
  have hP : va_P D zcl [(bk, .inr (5, [.int hd, .ref xl, .ref b1, .ref b2, .ref b3, .ref b4, .int 0, .int 0, .int 0])), (b3, .inl (dA 1, 250, .inl (fun _ => 0))), (xl, .inr (2, [.ref bl, .ref no, .ref ro, .int 0])), (ax, .inr (0, [.ref xt, .ref xp, .ref xs, .ref xl, .ref xb, .ref xk, .ref xm, .ref xq, .ref xg, .ref xf, .ref xe, .int 49])), (xb, .inl (dA 6, 3, .inr (.inr (.inr (.inr fb)))))] H := hP
  have hD : va_D A [(bk, .inr (5, [.int hd, .ref xl, .ref b1, .ref b2, .ref b3, .ref b4, .int 0, .int 0, .int 0])), (b3, .inl (dA 1, 250, .inl (fun _ => 0))), (xl, .inr (2, [.ref bl, .ref no, .ref ro, .int 0])), (ax, .inr (0, [.ref xt, .ref xp, .ref xs, .ref xl, .ref xb, .ref xk, .ref xm, .ref xq, .ref xg, .ref xf, .ref xe, .int 49])), (xb, .inl (dA 6, 3, .inr (.inr (.inr (.inr fb)))))] := hD
  obtain rfl : r_2 = (some bj) := hpo
  have hPc := hP.sub (ws' := [(bk, .inr (5, [.int hd, .ref xl, .ref b1, .ref b2, .ref b3, .ref b4, .int 0, .int 0, .int 0])), (xl, .inr (2, [.ref bl, .ref no, .ref ro, .int 0]))]) [0, 2] rfl
  have hDc := hD.sub (ws' := [(bk, .inr (5, [.int hd, .ref xl, .ref b1, .ref b2, .ref b3, .ref b4, .int 0, .int 0, .int 0])), (xl, .inr (2, [.ref bl, .ref no, .ref ro, .int 0]))]) [0, 2] (by decide) rfl
  have hFc := va_free (wc := [(bk, .inr (5, [.int hd, .ref xl, .ref b1, .ref b2, .ref b3, .ref b4, .int 0, .int 0, .int 0])), (xl, .inr (2, [.ref bl, .ref no, .ref ro, .int 0]))]) hD hS hA [0, 2] rfl
  refine va_calli (va_runV (As := [.ref bj]) (rest := []) ⟨hx, hb, hml, hown, hw⟩ (c_learnFrom0 l D dA dZ _ bk xl bj b1 b2 b3 b4 hd bl no ro) (z_cwV 1 hw mw_818 mw_819 mw_820 mw_9 mw_821 rfl rfl (by decide +kernel) ⟨Nat.le_of_ble_eq_true rfl, Nat.le_of_ble_eq_true rfl⟩) (zPreV hPc hK hDc hT hE hS hFc (va_recv hK hP (ci := 5) (q0 := 0) rfl rfl)) rfl rfl hl.1 rfl (lv_room (Nat.le_of_ble_eq_true rfl)) dX11_hear_12 ⟨Nat.le_of_ble_eq_true rfl, Nat.le_of_ble_eq_true rfl⟩) hS (fun q _ h => hFc q h) hFc (fun r_3 u t H1 locs ht hvm hpo hB hz1 hk1 hS => ?_)
  obtain ⟨hP1, hD1⟩ := hB
  rw [ht] at hP1
  obtain ⟨hP, hD⟩ := va_join (wr := [(b3, .inl (dA 1, 250, .inl (fun _ => 0))), (ax, .inr (0, [.ref xt, .ref xp, .ref xs, .ref xl, .ref xb, .ref xk, .ref xm, .ref xq, .ref xg, .ref xf, .ref xe, .int 49])), (xb, .inl (dA 6, 3, .inr (.inr (.inr (.inr fb)))))]) (w1 := [(bk, .inr (5, [.int hd, .ref xl, .ref b1, .ref b2, .ref b3, .ref b4, .int 0, .int 0, .int 0])), (xl, .inr (2, [.ref bl, .ref no, .ref ro, .int 0]))]) hP hD [0, 2] [1, 3, 4] rfl rfl (by decide) (by decide) hk1 hFc hP1 hD1
  generalize H1 = H at hP hS ⊢
  have hP : va_P D zcl [(b3, .inl (dA 1, 250, .inl (fun _ => 0))), (ax, .inr (0, [.ref xt, .ref xp, .ref xs, .ref xl, .ref xb, .ref xk, .ref xm, .ref xq, .ref xg, .ref xf, .ref xe, .int 49])), (xb, .inl (dA 6, 3, .inr (.inr (.inr (.inr fb))))), (bk, .inr (5, [.int hd, .ref xl, .ref b1, .ref b2, .ref b3, .ref b4, .int 0, .int 0, .int 0])), (xl, .inr (2, [.ref bl, .ref no, .ref ro, .int 0]))] H := hP
  have hD : va_D A [(b3, .inl (dA 1, 250, .inl (fun _ => 0))), (ax, .inr (0, [.ref xt, .ref xp, .ref xs, .ref xl, .ref xb, .ref xk, .ref xm, .ref xq, .ref xg, .ref xf, .ref xe, .int 49])), (xb, .inl (dA 6, 3, .inr (.inr (.inr (.inr fb))))), (bk, .inr (5, [.int hd, .ref xl, .ref b1, .ref b2, .ref b3, .ref b4, .int 0, .int 0, .int 0])), (xl, .inr (2, [.ref bl, .ref no, .ref ro, .int 0]))] := hD
  obtain rfl : r_3 = 0 := hpo
  have hP9 := hP.sub (ws' := [(ax, .inr (0, [.ref xt, .ref xp, .ref xs, .ref xl, .ref xb, .ref xk, .ref xm, .ref xq, .ref xg, .ref xf, .ref xe, .int 49])), (xb, .inl (dA 6, 3, .inr (.inr (.inr (.inr fb))))), (bk, .inr (5, [.int hd, .ref xl, .ref b1, .ref b2, .ref b3, .ref b4, .int 0, .int 0, .int 0])), (b3, .inl (dA 1, 250, .inl (fun _ => 0))), (xl, .inr (2, [.ref bl, .ref no, .ref ro, .int 0]))]) [1, 2, 3, 0, 4] rfl
  have hD9 := hD.sub (ws' := [(ax, .inr (0, [.ref xt, .ref xp, .ref xs, .ref xl, .ref xb, .ref xk, .ref xm, .ref xq, .ref xg, .ref xf, .ref xe, .int 49])), (xb, .inl (dA 6, 3, .inr (.inr (.inr (.inr fb))))), (bk, .inr (5, [.int hd, .ref xl, .ref b1, .ref b2, .ref b3, .ref b4, .int 0, .int 0, .int 0])), (b3, .inl (dA 1, 250, .inl (fun _ => 0))), (xl, .inr (2, [.ref bl, .ref no, .ref ro, .int 0]))]) [1, 2, 3, 0, 4] (by decide) rfl
  exact W.iret (v := 0) hx hb hr (fun t ht hW => ⟨⟨0, (), rfl, rfl, by rw [ht]; exact hP9, hD9⟩, hS.F ht⟩) hS.2.2 dX11_hear_15
set_option maxHeartbeats 4000000 in
set_option maxRecDepth 100000 in
/-- hear on a fresh object: bad2 -/
theorem c_hear_bad2 (l : Launch) (D : va_G) (dA : Nat → ClassId) (dZ : Nat → Nat) (sz : Nat) (hfl : l.stackTraces = false) (ax : Nat) (xt : Nat) (xp : Nat) (xs : Nat) (xl : Nat) (xb : Nat) (xk : Nat) (xm : Nat) (xq : Nat) (xg : Nat) (xf : Nat) (xe : Nat) (i : Nat) (fb : Nat → Option Nat) (bk : Nat) (b1 : Nat) (b2 : Nat) (b3 : Nat) (b4 : Nat) (hd : Int32) (y0 : Int32) (hi : i < 3) (hf : fb i = some bk) (hz : zbad y0) : vx_Met l yX11_hear (wz yX11_hear cX11_hear 4 (some .int)) ({ frames := 14, cells := 1, slots := 6, locals := 400 } : Room) (va_Pc [.ref ax, .int (nI i), .int y0] (zP D dA dZ [(ax, .inr (0, [.ref xt, .ref xp, .ref xs, .ref xl, .ref xb, .ref xk, .ref xm, .ref xq, .ref xg, .ref xf, .ref xe, .int 49])), (xb, .inl (dA 6, 3, .inr (.inr (.inr (.inr fb)))))] sz)) zNo (zX "java/lang/IndexOutOfBoundsException" (va_A [(ax, .inr (0, [.ref xt, .ref xp, .ref xs, .ref xl, .ref xb, .ref xk, .ref xm, .ref xq, .ref xg, .ref xf, .ref xe, .int 49])), (xb, .inl (dA 6, 3, .inr (.inr (.inr (.inr fb)))))] sz)) 1 6 (va_A [(ax, .inr (0, [.ref xt, .ref xp, .ref xs, .ref xl, .ref xb, .ref xk, .ref xm, .ref xq, .ref xg, .ref xf, .ref xe, .int 49])), (xb, .inl (dA 6, 3, .inr (.inr (.inr (.inr fb)))))] sz) := by
  refine vx_ofW (cc := cX11_hear) (maxL := 4) (ret := (some .int)) (by decide) rfl ?_
  intro p e s m args below meth c s₁ B hml hno hv
  obtain ⟨rfl, hsz, hP, hK, hD0, hT, hE⟩ := hv
  have hx := B.exec
  have hb := B.bytes
  have hr := B.returns
  have hw := wz_hw (atoms_spec (ws := wz yX11_hear cX11_hear 4 (some .int)) B.pre)
  have hown : s.vm.findClass "KindredBooks" = some m.cls := findClass_of_methodNamed B.named
  have hlocks := B.notSynchronized
  have hn := hT.1.use (args := ([.ref ax, .int (nI i), .int y0] : List Value).toArray)
  subst hsz
  have hD := hD0.self (sz := s.heap.size)
  generalize hAe : va_A [(ax, .inr (0, [.ref xt, .ref xp, .ref xs, .ref xl, .ref xb, .ref xk, .ref xm, .ref xq, .ref xg, .ref xf, .ref xe, .int 49])), (xb, .inl (dA 6, 3, .inr (.inr (.inr (.inr fb)))))] s.heap.size = A at hD hE ⊢
  have hA : ∀ q : Nat, s.heap.size ≤ q → A q := fun q h => by rw [← hAe]; exact Or.inr h
  have hS : va_S A s.heap s.heap [] := va_S.rf
  replace hP : va_P D zcl [(ax, .inr (0, [.ref xt, .ref xp, .ref xs, .ref xl, .ref xb, .ref xk, .ref xm, .ref xq, .ref xg, .ref xf, .ref xe, .int 49])), (xb, .inl (dA 6, 3, .inr (.inr (.inr (.inr fb)))))] s.heap := hP
  have hl := lv_entry ([.ref ax, .int (nI i), .int y0]) (n := 4) (Nat.le_of_ble_eq_true rfl)
  rw [lg_entry_eq]
  generalize (lg_sl ([.ref ax, .int (nI i), .int y0]) ++ List.replicate (4 - (lg_sl ([.ref ax, .int (nI i), .int y0])).length) Slot.unset).toArray = ls at hl ⊢
  replace hl : lv_has ls 4 [(0, .ref ax), (1, .int (nI i)), (2, .int y0)] := hl
  refine lv_aload_n hx hb dX11_hear_0 rfl (lv_at hl 0 rfl) ?_
  refine lv_iload_n hx hb dX11_hear_1 rfl (lv_at hl 1 rfl) ?_
  have hPc := hP.sub (ws' := [(ax, .inr (0, [.ref xt, .ref xp, .ref xs, .ref xl, .ref xb, .ref xk, .ref xm, .ref xq, .ref xg, .ref xf, .ref xe, .int 49])), (xb, .inl (dA 6, 3, .inr (.inr (.inr (.inr fb)))))]) [0, 1] rfl
  have hDc := hD.sub (ws' := [(ax, .inr (0, [.ref xt, .ref xp, .ref xs, .ref xl, .ref xb, .ref xk, .ref xm, .ref xq, .ref xg, .ref xf, .ref xe, .int 49])), (xb, .inl (dA 6, 3, .inr (.inr (.inr (.inr fb)))))]) [0, 1] (by decide) rfl
  have hFc := va_free (wc := [(ax, .inr (0, [.ref xt, .ref xp, .ref xs, .ref xl, .ref xb, .ref xk, .ref xm, .ref xq, .ref xg, .ref xf, .ref xe, .int 49])), (xb, .inl (dA 6, 3, .inr (.inr (.inr (.inr fb)))))]) hD hS hA [0, 1] rfl
  refine va_callq (va_runV (As := [.int (nI i)]) (rest := []) ⟨hx, hb, hml, hown, hw⟩ (c_bookOf l D dA dZ _ ax xt xp xs xl xb xk xm xq xg xf xe i fb bk hi hf) (z_cwV 1 hw mw_603 mw_605 ms_3 mw_1 mw_606 rfl rfl (by decide +kernel) ⟨Nat.le_of_ble_eq_true rfl, Nat.le_of_ble_eq_true rfl⟩) (zPreV hPc hK hDc hT hE hS hFc (va_recv hK hP (ci := 0) (q0 := 0) rfl rfl)) rfl rfl hl.1 rfl (lv_room (Nat.le_of_ble_eq_true rfl)) dX11_hear_2 ⟨Nat.le_of_ble_eq_true rfl, Nat.le_of_ble_eq_true rfl⟩) hS (fun q _ h => hFc q h) hFc (fun r_1 u t H1 locs ht hvm hpo hB hz1 hk1 hS => ?_)
  obtain ⟨hP1, hD1⟩ := hB
  rw [ht] at hP1
  obtain ⟨hP, hD⟩ := va_join (wr := []) (w1 := [(ax, .inr (0, [.ref xt, .ref xp, .ref xs, .ref xl, .ref xb, .ref xk, .ref xm, .ref xq, .ref xg, .ref xf, .ref xe, .int 49])), (xb, .inl (dA 6, 3, .inr (.inr (.inr (.inr fb)))))]) hP hD [0, 1] [] rfl rfl (by decide) (by decide) hk1 hFc hP1 hD1
  generalize H1 = H at hP hS ⊢
  have hP : va_P D zcl [(ax, .inr (0, [.ref xt, .ref xp, .ref xs, .ref xl, .ref xb, .ref xk, .ref xm, .ref xq, .ref xg, .ref xf, .ref xe, .int 49])), (xb, .inl (dA 6, 3, .inr (.inr (.inr (.inr fb)))))] H := hP
  have hD : va_D A [(ax, .inr (0, [.ref xt, .ref xp, .ref xs, .ref xl, .ref xb, .ref xk, .ref xm, .ref xq, .ref xg, .ref xf, .ref xe, .int 49])), (xb, .inl (dA 6, 3, .inr (.inr (.inr (.inr fb)))))] := hD
  obtain rfl : r_1 = (some bk) := hpo
  refine lv_astore_n (lv' := [(3, .ref bk), (0, .ref ax), (1, .int (nI i)), (2, .int y0)]) hx hb dX11_hear_5 rfl hl (by decide) rfl (fun ls hl => ?_)
  refine lv_aload_n hx hb dX11_hear_6 rfl (lv_at hl 0 rfl) ?_
  refine lv_aload_n hx hb dX11_hear_7 rfl (lv_at hl 1 rfl) ?_
  refine lv_iload_n hx hb dX11_hear_8 rfl (lv_at hl 3 rfl) ?_
  have hPc := hP.sub (ws' := []) [] rfl
  have hDc := hD.sub (ws' := []) [] (by decide) rfl
  have hFc := va_free (wc := []) hD hS hA [] rfl
  refine zx_call (E0 := "java/lang/IndexOutOfBoundsException") (vx_runV (As := [.int y0]) (rest := [.ref bk]) ⟨hx, hb, hml, hown, hw⟩ (c_bookOf_no l D dA dZ _ hfl ax y0 hz) (z_cwV 1 hw mw_603 mw_605 ms_3 mw_1 mw_606 rfl rfl (by decide +kernel) ⟨Nat.le_of_ble_eq_true rfl, Nat.le_of_ble_eq_true rfl⟩) (zPreV hPc hK hDc hT hE hS hFc (va_recv hK hP (ci := 0) (q0 := 0) rfl rfl)) rfl rfl hl.1 rfl (lv_room (Nat.le_of_ble_eq_true rfl)) dX11_hear_9 ⟨Nat.le_of_ble_eq_true rfl, Nat.le_of_ble_eq_true rfl⟩) hS (fun q _ h => hFc q h) hFc (fun ce q9 H1 locs hz1 hk1 hS hce hcv hcl => ?_)
  exact vx_out (fun x hx => (hno x hx).elim) hlocks hce hcv hcl (fun t ht ha => zX_at hS ht) hS.2.2 (Nat.le_of_ble_eq_true rfl) (Nat.le_of_ble_eq_true rfl)
set_option maxHeartbeats 4000000 in
set_option maxRecDepth 100000 in
/-- agree on a fresh object: ok -/
theorem c_agree_ok (l : Launch) (D : va_G) (dA : Nat → ClassId) (dZ : Nat → Nat) (sz : Nat) (ax : Nat) (xt : Nat) (xp : Nat) (xs : Nat) (xl : Nat) (xb : Nat) (xk : Nat) (xm : Nat) (xq : Nat) (xg : Nat) (xf : Nat) (xe : Nat) (i : Nat) (fb : Nat → Option Nat) (bk : Nat) (b1 : Nat) (b2 : Nat) (b3 : Nat) (b4 : Nat) (hd : Int32) (bl : Nat) (no : Nat) (ro : Nat) (j : Nat) (bj : Nat) (hi : i < 3) (hf : fb i = some bk) (hj : j < 3) (hg : fb j = some bj) : Met l yX11_agree (wz yX11_agree cX11_agree 4 (some .boolean)) ({ frames := 14, cells := 0, slots := 0, locals := 400 } : Room) (va_Pc [.ref ax, .int (nI i), .int (nI j)] (zP D dA dZ [(ax, .inr (0, [.ref xt, .ref xp, .ref xs, .ref xl, .ref xb, .ref xk, .ref xm, .ref xq, .ref xg, .ref xf, .ref xe, .int 49])), (xb, .inl (dA 6, 3, .inr (.inr (.inr (.inr fb))))), (bk, .inr (5, [.int hd, .ref xl, .ref b1, .ref b2, .ref b3, .ref b4, .int 0, .int 0, .int 0])), (b3, .inl (dA 1, 250, .inl (fun _ => 0))), (xl, .inr (2, [.ref bl, .ref no, .ref ro, .int 0]))] sz)) (va_Qi (fun (r : Int32) (_ : Unit) => r = 1) (fun _ => zB D (va_A [(ax, .inr (0, [.ref xt, .ref xp, .ref xs, .ref xl, .ref xb, .ref xk, .ref xm, .ref xq, .ref xg, .ref xf, .ref xe, .int 49])), (xb, .inl (dA 6, 3, .inr (.inr (.inr (.inr fb))))), (bk, .inr (5, [.int hd, .ref xl, .ref b1, .ref b2, .ref b3, .ref b4, .int 0, .int 0, .int 0])), (b3, .inl (dA 1, 250, .inl (fun _ => 0))), (xl, .inr (2, [.ref bl, .ref no, .ref ro, .int 0]))] sz) [(ax, .inr (0, [.ref xt, .ref xp, .ref xs, .ref xl, .ref xb, .ref xk, .ref xm, .ref xq, .ref xg, .ref xf, .ref xe, .int 49])), (xb, .inl (dA 6, 3, .inr (.inr (.inr (.inr fb))))), (bk, .inr (5, [.int hd, .ref xl, .ref b1, .ref b2, .ref b3, .ref b4, .int 0, .int 0, .int 0])), (b3, .inl (dA 1, 250, .inl (fun _ => 0))), (xl, .inr (2, [.ref bl, .ref no, .ref ro, .int 0]))]) (va_A [(ax, .inr (0, [.ref xt, .ref xp, .ref xs, .ref xl, .ref xb, .ref xk, .ref xm, .ref xq, .ref xg, .ref xf, .ref xe, .int 49])), (xb, .inl (dA 6, 3, .inr (.inr (.inr (.inr fb))))), (bk, .inr (5, [.int hd, .ref xl, .ref b1, .ref b2, .ref b3, .ref b4, .int 0, .int 0, .int 0])), (b3, .inl (dA 1, 250, .inl (fun _ => 0))), (xl, .inr (2, [.ref bl, .ref no, .ref ro, .int 0]))] sz)) 0 0 (va_A [(ax, .inr (0, [.ref xt, .ref xp, .ref xs, .ref xl, .ref xb, .ref xk, .ref xm, .ref xq, .ref xg, .ref xf, .ref xe, .int 49])), (xb, .inl (dA 6, 3, .inr (.inr (.inr (.inr fb))))), (bk, .inr (5, [.int hd, .ref xl, .ref b1, .ref b2, .ref b3, .ref b4, .int 0, .int 0, .int 0])), (b3, .inl (dA 1, 250, .inl (fun _ => 0))), (xl, .inr (2, [.ref bl, .ref no, .ref ro, .int 0]))] sz) := by
  refine Met.ofW (cc := cX11_agree) (maxL := 4) (ret := (some .boolean)) (by decide) rfl ?_
  intro p e s m args below meth c s₁ B hml hv
  obtain ⟨rfl, hsz, hP, hK, hD0, hT, hE⟩ := hv
  have hx := B.exec
  have hb := B.bytes
  have hr := B.returns
  have hw := wz_hw (atoms_spec (ws := wz yX11_agree cX11_agree 4 (some .boolean)) B.pre)
  have hown : s.vm.findClass "KindredBooks" = some m.cls := findClass_of_methodNamed B.named
  have hlocks := B.notSynchronized
  have hn := hT.1.use (args := ([.ref ax, .int (nI i), .int (nI j)] : List Value).toArray)
  subst hsz
  have hD := hD0.self (sz := s.heap.size)
  generalize hAe : va_A [(ax, .inr (0, [.ref xt, .ref xp, .ref xs, .ref xl, .ref xb, .ref xk, .ref xm, .ref xq, .ref xg, .ref xf, .ref xe, .int 49])), (xb, .inl (dA 6, 3, .inr (.inr (.inr (.inr fb))))), (bk, .inr (5, [.int hd, .ref xl, .ref b1, .ref b2, .ref b3, .ref b4, .int 0, .int 0, .int 0])), (b3, .inl (dA 1, 250, .inl (fun _ => 0))), (xl, .inr (2, [.ref bl, .ref no, .ref ro, .int 0]))] s.heap.size = A at hD hE ⊢
  have hA : ∀ q : Nat, s.heap.size ≤ q → A q := fun q h => by rw [← hAe]; exact Or.inr h
  have hS : va_S A s.heap s.heap [] := va_S.rf
  replace hP : va_P D zcl [(ax, .inr (0, [.ref xt, .ref xp, .ref xs, .ref xl, .ref xb, .ref xk, .ref xm, .ref xq, .ref xg, .ref xf, .ref xe, .int 49])), (xb, .inl (dA 6, 3, .inr (.inr (.inr (.inr fb))))), (bk, .inr (5, [.int hd, .ref xl, .ref b1, .ref b2, .ref b3, .ref b4, .int 0, .int 0, .int 0])), (b3, .inl (dA 1, 250, .inl (fun _ => 0))), (xl, .inr (2, [.ref bl, .ref no, .ref ro, .int 0]))] s.heap := hP
  have hl := lv_entry ([.ref ax, .int (nI i), .int (nI j)]) (n := 4) (Nat.le_of_ble_eq_true rfl)
  rw [lg_entry_eq]
  generalize (lg_sl ([.ref ax, .int (nI i), .int (nI j)]) ++ List.replicate (4 - (lg_sl ([.ref ax, .int (nI i), .int (nI j)])).length) Slot.unset).toArray = ls at hl ⊢
  replace hl : lv_has ls 4 [(0, .ref ax), (1, .int (nI i)), (2, .int (nI j))] := hl
  refine lv_aload_n hx hb dX11_agree_0 rfl (lv_at hl 0 rfl) ?_
  refine lv_iload_n hx hb dX11_agree_1 rfl (lv_at hl 1 rfl) ?_
  have hPc := hP.sub (ws' := [(ax, .inr (0, [.ref xt, .ref xp, .ref xs, .ref xl, .ref xb, .ref xk, .ref xm, .ref xq, .ref xg, .ref xf, .ref xe, .int 49])), (xb, .inl (dA 6, 3, .inr (.inr (.inr (.inr fb)))))]) [0, 1] rfl
  have hDc := hD.sub (ws' := [(ax, .inr (0, [.ref xt, .ref xp, .ref xs, .ref xl, .ref xb, .ref xk, .ref xm, .ref xq, .ref xg, .ref xf, .ref xe, .int 49])), (xb, .inl (dA 6, 3, .inr (.inr (.inr (.inr fb)))))]) [0, 1] (by decide) rfl
  have hFc := va_free (wc := [(ax, .inr (0, [.ref xt, .ref xp, .ref xs, .ref xl, .ref xb, .ref xk, .ref xm, .ref xq, .ref xg, .ref xf, .ref xe, .int 49])), (xb, .inl (dA 6, 3, .inr (.inr (.inr (.inr fb)))))]) hD hS hA [0, 1] rfl
  refine va_callq (va_runV (As := [.int (nI i)]) (rest := []) ⟨hx, hb, hml, hown, hw⟩ (c_bookOf l D dA dZ _ ax xt xp xs xl xb xk xm xq xg xf xe i fb bk hi hf) (z_cwV 1 hw mw_603 mw_605 ms_3 mw_1 mw_606 rfl rfl (by decide +kernel) ⟨Nat.le_of_ble_eq_true rfl, Nat.le_of_ble_eq_true rfl⟩) (zPreV hPc hK hDc hT hE hS hFc (va_recv hK hP (ci := 0) (q0 := 0) rfl rfl)) rfl rfl hl.1 rfl (lv_room (Nat.le_of_ble_eq_true rfl)) dX11_agree_2 ⟨Nat.le_of_ble_eq_true rfl, Nat.le_of_ble_eq_true rfl⟩) hS (fun q _ h => hFc q h) hFc (fun r_1 u t H1 locs ht hvm hpo hB hz1 hk1 hS => ?_)
  obtain ⟨hP1, hD1⟩ := hB
  rw [ht] at hP1
  obtain ⟨hP, hD⟩ := va_join (wr := [(bk, .inr (5, [.int hd, .ref xl, .ref b1, .ref b2, .ref b3, .ref b4, .int 0, .int 0, .int 0])), (b3, .inl (dA 1, 250, .inl (fun _ => 0))), (xl, .inr (2, [.ref bl, .ref no, .ref ro, .int 0]))]) (w1 := [(ax, .inr (0, [.ref xt, .ref xp, .ref xs, .ref xl, .ref xb, .ref xk, .ref xm, .ref xq, .ref xg, .ref xf, .ref xe, .int 49])), (xb, .inl (dA 6, 3, .inr (.inr (.inr (.inr fb)))))]) hP hD [0, 1] [2, 3, 4] rfl rfl (by decide) (by decide) hk1 hFc hP1 hD1
  generalize H1 = H at hP hS ⊢
  have hP : va_P D zcl [(bk, .inr (5, [.int hd, .ref xl, .ref b1, .ref b2, .ref b3, .ref b4, .int 0, .int 0, .int 0])), (b3, .inl (dA 1, 250, .inl (fun _ => 0))), (xl, .inr (2, [.ref bl, .ref no, .ref ro, .int 0])), (ax, .inr (0, [.ref xt, .ref xp, .ref xs, .ref xl, .ref xb, .ref xk, .ref xm, .ref xq, .ref xg, .ref xf, .ref xe, .int 49])), (xb, .inl (dA 6, 3, .inr (.inr (.inr (.inr fb)))))] H := hP
  have hD : va_D A [(bk, .inr (5, [.int hd, .ref xl, .ref b1, .ref b2, .ref b3, .ref b4, .int 0, .int 0, .int 0])), (b3, .inl (dA 1, 250, .inl (fun _ => 0))), (xl, .inr (2, [.ref bl, .ref no, .ref ro, .int 0])), (ax, .inr (0, [.ref xt, .ref xp, .ref xs, .ref xl, .ref xb, .ref xk, .ref xm, .ref xq, .ref xg, .ref xf, .ref xe, .int 49])), (xb, .inl (dA 6, 3, .inr (.inr (.inr (.inr fb)))))] := hD
  obtain rfl : r_1 = (some bk) := hpo
  refine lv_astore_n (lv' := [(3, .ref bk), (0, .ref ax), (1, .int (nI i)), (2, .int (nI j))]) hx hb dX11_agree_5 rfl hl (by decide) rfl (fun ls hl => ?_)
  refine lv_aload_n hx hb dX11_agree_6 rfl (lv_at hl 0 rfl) ?_
  refine lv_aload_n hx hb dX11_agree_7 rfl (lv_at hl 1 rfl) ?_
  refine lv_iload_n hx hb dX11_agree_8 rfl (lv_at hl 3 rfl) ?_
  have hPc := hP.sub (ws' := [(ax, .inr (0, [.ref xt, .ref xp, .ref xs, .ref xl, .ref xb, .ref xk, .ref xm, .ref xq, .ref xg, .ref xf, .ref xe, .int 49])), (xb, .inl (dA 6, 3, .inr (.inr (.inr (.inr fb)))))]) [3, 4] rfl
  have hDc := hD.sub (ws' := [(ax, .inr (0, [.ref xt, .ref xp, .ref xs, .ref xl, .ref xb, .ref xk, .ref xm, .ref xq, .ref xg, .ref xf, .ref xe, .int 49])), (xb, .inl (dA 6, 3, .inr (.inr (.inr (.inr fb)))))]) [3, 4] (by decide) rfl
  have hFc := va_free (wc := [(ax, .inr (0, [.ref xt, .ref xp, .ref xs, .ref xl, .ref xb, .ref xk, .ref xm, .ref xq, .ref xg, .ref xf, .ref xe, .int 49])), (xb, .inl (dA 6, 3, .inr (.inr (.inr (.inr fb)))))]) hD hS hA [3, 4] rfl
  refine va_callq (va_runV (As := [.int (nI j)]) (rest := [.ref bk]) ⟨hx, hb, hml, hown, hw⟩ (c_bookOf l D dA dZ _ ax xt xp xs xl xb xk xm xq xg xf xe j fb bj hj hg) (z_cwV 1 hw mw_603 mw_605 ms_3 mw_1 mw_606 rfl rfl (by decide +kernel) ⟨Nat.le_of_ble_eq_true rfl, Nat.le_of_ble_eq_true rfl⟩) (zPreV hPc hK hDc hT hE hS hFc (va_recv hK hP (ci := 0) (q0 := 3) rfl rfl)) rfl rfl hl.1 rfl (lv_room (Nat.le_of_ble_eq_true rfl)) dX11_agree_9 ⟨Nat.le_of_ble_eq_true rfl, Nat.le_of_ble_eq_true rfl⟩) hS (fun q _ h => hFc q h) hFc (fun r_2 u t H1 locs ht hvm hpo hB hz1 hk1 hS => ?_)
  obtain ⟨hP1, hD1⟩ := hB
  rw [ht] at hP1
  obtain ⟨hP, hD⟩ := va_join (wr := [(bk, .inr (5, [.int hd, .ref xl, .ref b1, .ref b2, .ref b3, .ref b4, .int 0, .int 0, .int 0])), (b3, .inl (dA 1, 250, .inl (fun _ => 0))), (xl, .inr (2, [.ref bl, .ref no, .ref ro, .int 0]))]) (w1 := [(ax, .inr (0, [.ref xt, .ref xp, .ref xs, .ref xl, .ref xb, .ref xk, .ref xm, .ref xq, .ref xg, .ref xf, .ref xe, .int 49])), (xb, .inl (dA 6, 3, .inr (.inr (.inr (.inr fb)))))]) hP hD [3, 4] [0, 1, 2] rfl rfl (by decide) (by decide) hk1 hFc hP1 hD1
  generalize H1 = H at hP hS ⊢
  have hP : va_P D zcl [(bk, .inr (5, [.int hd, .ref xl, .ref b1, .ref b2, .ref b3, .ref b4, .int 0, .int 0, .int 0])), (b3, .inl (dA 1, 250, .inl (fun _ => 0))), (xl, .inr (2, [.ref bl, .ref no, .ref ro, .int 0])), (ax, .inr (0, [.ref xt, .ref xp, .ref xs, .ref xl, .ref xb, .ref xk, .ref xm, .ref xq, .ref xg, .ref xf, .ref xe, .int 49])), (xb, .inl (dA 6, 3, .inr (.inr (.inr (.inr fb)))))] H := hP
  have hD : va_D A [(bk, .inr (5, [.int hd, .ref xl, .ref b1, .ref b2, .ref b3, .ref b4, .int 0, .int 0, .int 0])), (b3, .inl (dA 1, 250, .inl (fun _ => 0))), (xl, .inr (2, [.ref bl, .ref no, .ref ro, .int 0])), (ax, .inr (0, [.ref xt, .ref xp, .ref xs, .ref xl, .ref xb, .ref xk, .ref xm, .ref xq, .ref xg, .ref xf, .ref xe, .int 49])), (xb, .inl (dA 6, 3, .inr (.inr (.inr (.inr fb)))))] := hD
  obtain rfl : r_2 = (some bj) := hpo
  have hPc := hP.sub (ws' := [(bk, .inr (5, [.int hd, .ref xl, .ref b1, .ref b2, .ref b3, .ref b4, .int 0, .int 0, .int 0])), (xl, .inr (2, [.ref bl, .ref no, .ref ro, .int 0]))]) [0, 2] rfl
  have hDc := hD.sub (ws' := [(bk, .inr (5, [.int hd, .ref xl, .ref b1, .ref b2, .ref b3, .ref b4, .int 0, .int 0, .int 0])), (xl, .inr (2, [.ref bl, .ref no, .ref ro, .int 0]))]) [0, 2] (by decide) rfl
  have hFc := va_free (wc := [(bk, .inr (5, [.int hd, .ref xl, .ref b1, .ref b2, .ref b3, .ref b4, .int 0, .int 0, .int 0])), (xl, .inr (2, [.ref bl, .ref no, .ref ro, .int 0]))]) hD hS hA [0, 2] rfl
  refine va_calli (va_runV (As := [.ref bj]) (rest := []) ⟨hx, hb, hml, hown, hw⟩ (c_knowsTheSame0 l D dA dZ _ bk xl bj b1 b2 b3 b4 hd bl no ro) (z_cwV 1 hw mw_1376 mw_1377 mw_1378 mw_9 mw_1379 rfl rfl (by decide +kernel) ⟨Nat.le_of_ble_eq_true rfl, Nat.le_of_ble_eq_true rfl⟩) (zPreV hPc hK hDc hT hE hS hFc (va_recv hK hP (ci := 5) (q0 := 0) rfl rfl)) rfl rfl hl.1 rfl (lv_room (Nat.le_of_ble_eq_true rfl)) dX11_agree_12 ⟨Nat.le_of_ble_eq_true rfl, Nat.le_of_ble_eq_true rfl⟩) hS (fun q _ h => hFc q h) hFc (fun r_3 u t H1 locs ht hvm hpo hB hz1 hk1 hS => ?_)
  obtain ⟨hP1, hD1⟩ := hB
  rw [ht] at hP1
  obtain ⟨hP, hD⟩ := va_join (wr := [(b3, .inl (dA 1, 250, .inl (fun _ => 0))), (ax, .inr (0, [.ref xt, .ref xp, .ref xs, .ref xl, .ref xb, .ref xk, .ref xm, .ref xq, .ref xg, .ref xf, .ref xe, .int 49])), (xb, .inl (dA 6, 3, .inr (.inr (.inr (.inr fb)))))]) (w1 := [(bk, .inr (5, [.int hd, .ref xl, .ref b1, .ref b2, .ref b3, .ref b4, .int 0, .int 0, .int 0])), (xl, .inr (2, [.ref bl, .ref no, .ref ro, .int 0]))]) hP hD [0, 2] [1, 3, 4] rfl rfl (by decide) (by decide) hk1 hFc hP1 hD1
  generalize H1 = H at hP hS ⊢
  have hP : va_P D zcl [(b3, .inl (dA 1, 250, .inl (fun _ => 0))), (ax, .inr (0, [.ref xt, .ref xp, .ref xs, .ref xl, .ref xb, .ref xk, .ref xm, .ref xq, .ref xg, .ref xf, .ref xe, .int 49])), (xb, .inl (dA 6, 3, .inr (.inr (.inr (.inr fb))))), (bk, .inr (5, [.int hd, .ref xl, .ref b1, .ref b2, .ref b3, .ref b4, .int 0, .int 0, .int 0])), (xl, .inr (2, [.ref bl, .ref no, .ref ro, .int 0]))] H := hP
  have hD : va_D A [(b3, .inl (dA 1, 250, .inl (fun _ => 0))), (ax, .inr (0, [.ref xt, .ref xp, .ref xs, .ref xl, .ref xb, .ref xk, .ref xm, .ref xq, .ref xg, .ref xf, .ref xe, .int 49])), (xb, .inl (dA 6, 3, .inr (.inr (.inr (.inr fb))))), (bk, .inr (5, [.int hd, .ref xl, .ref b1, .ref b2, .ref b3, .ref b4, .int 0, .int 0, .int 0])), (xl, .inr (2, [.ref bl, .ref no, .ref ro, .int 0]))] := hD
  obtain rfl : r_3 = 1 := hpo
  have hP9 := hP.sub (ws' := [(ax, .inr (0, [.ref xt, .ref xp, .ref xs, .ref xl, .ref xb, .ref xk, .ref xm, .ref xq, .ref xg, .ref xf, .ref xe, .int 49])), (xb, .inl (dA 6, 3, .inr (.inr (.inr (.inr fb))))), (bk, .inr (5, [.int hd, .ref xl, .ref b1, .ref b2, .ref b3, .ref b4, .int 0, .int 0, .int 0])), (b3, .inl (dA 1, 250, .inl (fun _ => 0))), (xl, .inr (2, [.ref bl, .ref no, .ref ro, .int 0]))]) [1, 2, 3, 0, 4] rfl
  have hD9 := hD.sub (ws' := [(ax, .inr (0, [.ref xt, .ref xp, .ref xs, .ref xl, .ref xb, .ref xk, .ref xm, .ref xq, .ref xg, .ref xf, .ref xe, .int 49])), (xb, .inl (dA 6, 3, .inr (.inr (.inr (.inr fb))))), (bk, .inr (5, [.int hd, .ref xl, .ref b1, .ref b2, .ref b3, .ref b4, .int 0, .int 0, .int 0])), (b3, .inl (dA 1, 250, .inl (fun _ => 0))), (xl, .inr (2, [.ref bl, .ref no, .ref ro, .int 0]))]) [1, 2, 3, 0, 4] (by decide) rfl
  exact W.zret (v := 1) hx hb hr rfl (fun t ht hW => ⟨⟨1, (), rfl, rfl, by rw [ht]; exact hP9, hD9⟩, hS.F ht⟩) hS.2.2 dX11_agree_15
set_option maxHeartbeats 4000000 in
set_option maxRecDepth 100000 in
/-- agree on a fresh object: bad2 -/
theorem c_agree_bad2 (l : Launch) (D : va_G) (dA : Nat → ClassId) (dZ : Nat → Nat) (sz : Nat) (hfl : l.stackTraces = false) (ax : Nat) (xt : Nat) (xp : Nat) (xs : Nat) (xl : Nat) (xb : Nat) (xk : Nat) (xm : Nat) (xq : Nat) (xg : Nat) (xf : Nat) (xe : Nat) (i : Nat) (fb : Nat → Option Nat) (bk : Nat) (b1 : Nat) (b2 : Nat) (b3 : Nat) (b4 : Nat) (hd : Int32) (y0 : Int32) (hi : i < 3) (hf : fb i = some bk) (hz : zbad y0) : vx_Met l yX11_agree (wz yX11_agree cX11_agree 4 (some .boolean)) ({ frames := 14, cells := 1, slots := 6, locals := 400 } : Room) (va_Pc [.ref ax, .int (nI i), .int y0] (zP D dA dZ [(ax, .inr (0, [.ref xt, .ref xp, .ref xs, .ref xl, .ref xb, .ref xk, .ref xm, .ref xq, .ref xg, .ref xf, .ref xe, .int 49])), (xb, .inl (dA 6, 3, .inr (.inr (.inr (.inr fb)))))] sz)) zNo (zX "java/lang/IndexOutOfBoundsException" (va_A [(ax, .inr (0, [.ref xt, .ref xp, .ref xs, .ref xl, .ref xb, .ref xk, .ref xm, .ref xq, .ref xg, .ref xf, .ref xe, .int 49])), (xb, .inl (dA 6, 3, .inr (.inr (.inr (.inr fb)))))] sz)) 1 6 (va_A [(ax, .inr (0, [.ref xt, .ref xp, .ref xs, .ref xl, .ref xb, .ref xk, .ref xm, .ref xq, .ref xg, .ref xf, .ref xe, .int 49])), (xb, .inl (dA 6, 3, .inr (.inr (.inr (.inr fb)))))] sz) := by
  refine vx_ofW (cc := cX11_agree) (maxL := 4) (ret := (some .boolean)) (by decide) rfl ?_
  intro p e s m args below meth c s₁ B hml hno hv
  obtain ⟨rfl, hsz, hP, hK, hD0, hT, hE⟩ := hv
  have hx := B.exec
  have hb := B.bytes
  have hr := B.returns
  have hw := wz_hw (atoms_spec (ws := wz yX11_agree cX11_agree 4 (some .boolean)) B.pre)
  have hown : s.vm.findClass "KindredBooks" = some m.cls := findClass_of_methodNamed B.named
  have hlocks := B.notSynchronized
  have hn := hT.1.use (args := ([.ref ax, .int (nI i), .int y0] : List Value).toArray)
  subst hsz
  have hD := hD0.self (sz := s.heap.size)
  generalize hAe : va_A [(ax, .inr (0, [.ref xt, .ref xp, .ref xs, .ref xl, .ref xb, .ref xk, .ref xm, .ref xq, .ref xg, .ref xf, .ref xe, .int 49])), (xb, .inl (dA 6, 3, .inr (.inr (.inr (.inr fb)))))] s.heap.size = A at hD hE ⊢
  have hA : ∀ q : Nat, s.heap.size ≤ q → A q := fun q h => by rw [← hAe]; exact Or.inr h
  have hS : va_S A s.heap s.heap [] := va_S.rf
  replace hP : va_P D zcl [(ax, .inr (0, [.ref xt, .ref xp, .ref xs, .ref xl, .ref xb, .ref xk, .ref xm, .ref xq, .ref xg, .ref xf, .ref xe, .int 49])), (xb, .inl (dA 6, 3, .inr (.inr (.inr (.inr fb)))))] s.heap := hP
  have hl := lv_entry ([.ref ax, .int (nI i), .int y0]) (n := 4) (Nat.le_of_ble_eq_true rfl)
  rw [lg_entry_eq]
  generalize (lg_sl ([.ref ax, .int (nI i), .int y0]) ++ List.replicate (4 - (lg_sl ([.ref ax, .int (nI i), .int y0])).length) Slot.unset).toArray = ls at hl ⊢
  replace hl : lv_has ls 4 [(0, .ref ax), (1, .int (nI i)), (2, .int y0)] := hl
  refine lv_aload_n hx hb dX11_agree_0 rfl (lv_at hl 0 rfl) ?_
  refine lv_iload_n hx hb dX11_agree_1 rfl (lv_at hl 1 rfl) ?_
  have hPc := hP.sub (ws' := [(ax, .inr (0, [.ref xt, .ref xp, .ref xs, .ref xl, .ref xb, .ref xk, .ref xm, .ref xq, .ref xg, .ref xf, .ref xe, .int 49])), (xb, .inl (dA 6, 3, .inr (.inr (.inr (.inr fb)))))]) [0, 1] rfl
  have hDc := hD.sub (ws' := [(ax, .inr (0, [.ref xt, .ref xp, .ref xs, .ref xl, .ref xb, .ref xk, .ref xm, .ref xq, .ref xg, .ref xf, .ref xe, .int 49])), (xb, .inl (dA 6, 3, .inr (.inr (.inr (.inr fb)))))]) [0, 1] (by decide) rfl
  have hFc := va_free (wc := [(ax, .inr (0, [.ref xt, .ref xp, .ref xs, .ref xl, .ref xb, .ref xk, .ref xm, .ref xq, .ref xg, .ref xf, .ref xe, .int 49])), (xb, .inl (dA 6, 3, .inr (.inr (.inr (.inr fb)))))]) hD hS hA [0, 1] rfl
  refine va_callq (va_runV (As := [.int (nI i)]) (rest := []) ⟨hx, hb, hml, hown, hw⟩ (c_bookOf l D dA dZ _ ax xt xp xs xl xb xk xm xq xg xf xe i fb bk hi hf) (z_cwV 1 hw mw_603 mw_605 ms_3 mw_1 mw_606 rfl rfl (by decide +kernel) ⟨Nat.le_of_ble_eq_true rfl, Nat.le_of_ble_eq_true rfl⟩) (zPreV hPc hK hDc hT hE hS hFc (va_recv hK hP (ci := 0) (q0 := 0) rfl rfl)) rfl rfl hl.1 rfl (lv_room (Nat.le_of_ble_eq_true rfl)) dX11_agree_2 ⟨Nat.le_of_ble_eq_true rfl, Nat.le_of_ble_eq_true rfl⟩) hS (fun q _ h => hFc q h) hFc (fun r_1 u t H1 locs ht hvm hpo hB hz1 hk1 hS => ?_)
  obtain ⟨hP1, hD1⟩ := hB
  rw [ht] at hP1
  obtain ⟨hP, hD⟩ := va_join (wr := []) (w1 := [(ax, .inr (0, [.ref xt, .ref xp, .ref xs, .ref xl, .ref xb, .ref xk, .ref xm, .ref xq, .ref xg, .ref xf, .ref xe, .int 49])), (xb, .inl (dA 6, 3, .inr (.inr (.inr (.inr fb)))))]) hP hD [0, 1] [] rfl rfl (by decide) (by decide) hk1 hFc hP1 hD1
  generalize H1 = H at hP hS ⊢
  have hP : va_P D zcl [(ax, .inr (0, [.ref xt, .ref xp, .ref xs, .ref xl, .ref xb, .ref xk, .ref xm, .ref xq, .ref xg, .ref xf, .ref xe, .int 49])), (xb, .inl (dA 6, 3, .inr (.inr (.inr (.inr fb)))))] H := hP
  have hD : va_D A [(ax, .inr (0, [.ref xt, .ref xp, .ref xs, .ref xl, .ref xb, .ref xk, .ref xm, .ref xq, .ref xg, .ref xf, .ref xe, .int 49])), (xb, .inl (dA 6, 3, .inr (.inr (.inr (.inr fb)))))] := hD
  obtain rfl : r_1 = (some bk) := hpo
  refine lv_astore_n (lv' := [(3, .ref bk), (0, .ref ax), (1, .int (nI i)), (2, .int y0)]) hx hb dX11_agree_5 rfl hl (by decide) rfl (fun ls hl => ?_)
  refine lv_aload_n hx hb dX11_agree_6 rfl (lv_at hl 0 rfl) ?_
  refine lv_aload_n hx hb dX11_agree_7 rfl (lv_at hl 1 rfl) ?_
  refine lv_iload_n hx hb dX11_agree_8 rfl (lv_at hl 3 rfl) ?_
  have hPc := hP.sub (ws' := []) [] rfl
  have hDc := hD.sub (ws' := []) [] (by decide) rfl
  have hFc := va_free (wc := []) hD hS hA [] rfl
  refine zx_call (E0 := "java/lang/IndexOutOfBoundsException") (vx_runV (As := [.int y0]) (rest := [.ref bk]) ⟨hx, hb, hml, hown, hw⟩ (c_bookOf_no l D dA dZ _ hfl ax y0 hz) (z_cwV 1 hw mw_603 mw_605 ms_3 mw_1 mw_606 rfl rfl (by decide +kernel) ⟨Nat.le_of_ble_eq_true rfl, Nat.le_of_ble_eq_true rfl⟩) (zPreV hPc hK hDc hT hE hS hFc (va_recv hK hP (ci := 0) (q0 := 0) rfl rfl)) rfl rfl hl.1 rfl (lv_room (Nat.le_of_ble_eq_true rfl)) dX11_agree_9 ⟨Nat.le_of_ble_eq_true rfl, Nat.le_of_ble_eq_true rfl⟩) hS (fun q _ h => hFc q h) hFc (fun ce q9 H1 locs hz1 hk1 hS hce hcv hcl => ?_)
  exact vx_out (fun x hx => (hno x hx).elim) hlocks hce hcv hcl (fun t ht ha => zX_at hS ht) hS.2.2 (Nat.le_of_ble_eq_true rfl) (Nat.le_of_ble_eq_true rfl)
set_option maxHeartbeats 4000000 in
set_option maxRecDepth 100000 in
/-- change on a fresh object: none -/
theorem c_change_none (l : Launch) (D : va_G) (dA : Nat → ClassId) (dZ : Nat → Nat) (sz : Nat) (hfl : l.stackTraces = false) (ax : Nat) (xt : Nat) (xp : Nat) (xs : Nat) (xl : Nat) (xb : Nat) (xk : Nat) (xm : Nat) (xq : Nat) (xg : Nat) (xf : Nat) (xe : Nat) (bl : Nat) (no : Nat) (ro : Nat) (y0 : Int32) (y1 : Int32) : vx_Met l yX11_change (wz yX11_change cX11_change 4 (some .int)) ({ frames := 14, cells := 1, slots := 6, locals := 400 } : Room) (va_Pc [.ref ax, .int y0, .int y1] (zP D dA dZ [(ax, .inr (0, [.ref xt, .ref xp, .ref xs, .ref xl, .ref xb, .ref xk, .ref xm, .ref xq, .ref xg, .ref xf, .ref xe, .int 49])), (xl, .inr (2, [.ref bl, .ref no, .ref ro, .int 0]))] sz)) zNo (zX "java/lang/IndexOutOfBoundsException" (va_A [(ax, .inr (0, [.ref xt, .ref xp, .ref xs, .ref xl, .ref xb, .ref xk, .ref xm, .ref xq, .ref xg, .ref xf, .ref xe, .int 49])), (xl, .inr (2, [.ref bl, .ref no, .ref ro, .int 0]))] sz)) 1 6 (va_A [(ax, .inr (0, [.ref xt, .ref xp, .ref xs, .ref xl, .ref xb, .ref xk, .ref xm, .ref xq, .ref xg, .ref xf, .ref xe, .int 49])), (xl, .inr (2, [.ref bl, .ref no, .ref ro, .int 0]))] sz) := by
  refine vx_ofW (cc := cX11_change) (maxL := 4) (ret := (some .int)) (by decide) rfl ?_
  intro p e s m args below meth c s₁ B hml hno hv
  obtain ⟨rfl, hsz, hP, hK, hD0, hT, hE⟩ := hv
  have hx := B.exec
  have hb := B.bytes
  have hr := B.returns
  have hw := wz_hw (atoms_spec (ws := wz yX11_change cX11_change 4 (some .int)) B.pre)
  have hown : s.vm.findClass "KindredBooks" = some m.cls := findClass_of_methodNamed B.named
  have hlocks := B.notSynchronized
  have hn := hT.1.use (args := ([.ref ax, .int y0, .int y1] : List Value).toArray)
  subst hsz
  have hD := hD0.self (sz := s.heap.size)
  generalize hAe : va_A [(ax, .inr (0, [.ref xt, .ref xp, .ref xs, .ref xl, .ref xb, .ref xk, .ref xm, .ref xq, .ref xg, .ref xf, .ref xe, .int 49])), (xl, .inr (2, [.ref bl, .ref no, .ref ro, .int 0]))] s.heap.size = A at hD hE ⊢
  have hA : ∀ q : Nat, s.heap.size ≤ q → A q := fun q h => by rw [← hAe]; exact Or.inr h
  have hS : va_S A s.heap s.heap [] := va_S.rf
  replace hP : va_P D zcl [(ax, .inr (0, [.ref xt, .ref xp, .ref xs, .ref xl, .ref xb, .ref xk, .ref xm, .ref xq, .ref xg, .ref xf, .ref xe, .int 49])), (xl, .inr (2, [.ref bl, .ref no, .ref ro, .int 0]))] s.heap := hP
  have hl := lv_entry ([.ref ax, .int y0, .int y1]) (n := 4) (Nat.le_of_ble_eq_true rfl)
  rw [lg_entry_eq]
  generalize (lg_sl ([.ref ax, .int y0, .int y1]) ++ List.replicate (4 - (lg_sl ([.ref ax, .int y0, .int y1])).length) Slot.unset).toArray = ls at hl ⊢
  replace hl : lv_has ls 4 [(0, .ref ax), (1, .int y0), (2, .int y1)] := hl
  refine lv_aload_n hx hb dX11_change_0 rfl (lv_at hl 0 rfl) ?_
  refine lv_iload_n hx hb dX11_change_1 rfl (lv_at hl 1 rfl) ?_
  have hPc := hP.sub (ws' := [(ax, .inr (0, [.ref xt, .ref xp, .ref xs, .ref xl, .ref xb, .ref xk, .ref xm, .ref xq, .ref xg, .ref xf, .ref xe, .int 49])), (xl, .inr (2, [.ref bl, .ref no, .ref ro, .int 0]))]) [0, 1] rfl
  have hDc := hD.sub (ws' := [(ax, .inr (0, [.ref xt, .ref xp, .ref xs, .ref xl, .ref xb, .ref xk, .ref xm, .ref xq, .ref xg, .ref xf, .ref xe, .int 49])), (xl, .inr (2, [.ref bl, .ref no, .ref ro, .int 0]))]) [0, 1] (by decide) rfl
  have hFc := va_free (wc := [(ax, .inr (0, [.ref xt, .ref xp, .ref xs, .ref xl, .ref xb, .ref xk, .ref xm, .ref xq, .ref xg, .ref xf, .ref xe, .int 49])), (xl, .inr (2, [.ref bl, .ref no, .ref ro, .int 0]))]) hD hS hA [0, 1] rfl
  refine zx_call (E0 := "java/lang/IndexOutOfBoundsException") (vx_runV (As := [.int y0]) (rest := []) ⟨hx, hb, hml, hown, hw⟩ (c_checkChange_no l D dA dZ _ hfl ax xt xp xs xl xb xk xm xq xg xf xe bl no ro y0) (z_cwV 1 hw mw_789 mw_791 ms_16 mw_1 mw_792 rfl rfl (by decide +kernel) ⟨Nat.le_of_ble_eq_true rfl, Nat.le_of_ble_eq_true rfl⟩) (zPreV hPc hK hDc hT hE hS hFc (va_recv hK hP (ci := 0) (q0 := 0) rfl rfl)) rfl rfl hl.1 rfl (lv_room (Nat.le_of_ble_eq_true rfl)) dX11_change_2 ⟨Nat.le_of_ble_eq_true rfl, Nat.le_of_ble_eq_true rfl⟩) hS (fun q _ h => hFc q h) hFc (fun ce q9 H1 locs hz1 hk1 hS hce hcv hcl => ?_)
  exact vx_out (fun x hx => (hno x hx).elim) hlocks hce hcv hcl (fun t ht ha => zX_at hS ht) hS.2.2 (Nat.le_of_ble_eq_true rfl) (Nat.le_of_ble_eq_true rfl)
set_option maxHeartbeats 4000000 in
set_option maxRecDepth 100000 in
/-- write on a fresh object: none -/
theorem c_write_none (l : Launch) (D : va_G) (dA : Nat → ClassId) (dZ : Nat → Nat) (sz : Nat) (hfl : l.stackTraces = false) (ax : Nat) (xt : Nat) (xp : Nat) (xs : Nat) (xl : Nat) (xb : Nat) (xk : Nat) (xm : Nat) (xq : Nat) (xg : Nat) (xf : Nat) (xe : Nat) (bl : Nat) (no : Nat) (ro : Nat) (y0 : Int32) (y1 : Int32) : vx_Met l yX11_write (wz yX11_write cX11_write 4 (some .int)) ({ frames := 14, cells := 1, slots := 6, locals := 400 } : Room) (va_Pc [.ref ax, .int y0, .int y1] (zP D dA dZ [(ax, .inr (0, [.ref xt, .ref xp, .ref xs, .ref xl, .ref xb, .ref xk, .ref xm, .ref xq, .ref xg, .ref xf, .ref xe, .int 49])), (xl, .inr (2, [.ref bl, .ref no, .ref ro, .int 0]))] sz)) zNo (zX "java/lang/IndexOutOfBoundsException" (va_A [(ax, .inr (0, [.ref xt, .ref xp, .ref xs, .ref xl, .ref xb, .ref xk, .ref xm, .ref xq, .ref xg, .ref xf, .ref xe, .int 49])), (xl, .inr (2, [.ref bl, .ref no, .ref ro, .int 0]))] sz)) 1 6 (va_A [(ax, .inr (0, [.ref xt, .ref xp, .ref xs, .ref xl, .ref xb, .ref xk, .ref xm, .ref xq, .ref xg, .ref xf, .ref xe, .int 49])), (xl, .inr (2, [.ref bl, .ref no, .ref ro, .int 0]))] sz) := by
  refine vx_ofW (cc := cX11_write) (maxL := 4) (ret := (some .int)) (by decide) rfl ?_
  intro p e s m args below meth c s₁ B hml hno hv
  obtain ⟨rfl, hsz, hP, hK, hD0, hT, hE⟩ := hv
  have hx := B.exec
  have hb := B.bytes
  have hr := B.returns
  have hw := wz_hw (atoms_spec (ws := wz yX11_write cX11_write 4 (some .int)) B.pre)
  have hown : s.vm.findClass "KindredBooks" = some m.cls := findClass_of_methodNamed B.named
  have hlocks := B.notSynchronized
  have hn := hT.1.use (args := ([.ref ax, .int y0, .int y1] : List Value).toArray)
  subst hsz
  have hD := hD0.self (sz := s.heap.size)
  generalize hAe : va_A [(ax, .inr (0, [.ref xt, .ref xp, .ref xs, .ref xl, .ref xb, .ref xk, .ref xm, .ref xq, .ref xg, .ref xf, .ref xe, .int 49])), (xl, .inr (2, [.ref bl, .ref no, .ref ro, .int 0]))] s.heap.size = A at hD hE ⊢
  have hA : ∀ q : Nat, s.heap.size ≤ q → A q := fun q h => by rw [← hAe]; exact Or.inr h
  have hS : va_S A s.heap s.heap [] := va_S.rf
  replace hP : va_P D zcl [(ax, .inr (0, [.ref xt, .ref xp, .ref xs, .ref xl, .ref xb, .ref xk, .ref xm, .ref xq, .ref xg, .ref xf, .ref xe, .int 49])), (xl, .inr (2, [.ref bl, .ref no, .ref ro, .int 0]))] s.heap := hP
  have hl := lv_entry ([.ref ax, .int y0, .int y1]) (n := 4) (Nat.le_of_ble_eq_true rfl)
  rw [lg_entry_eq]
  generalize (lg_sl ([.ref ax, .int y0, .int y1]) ++ List.replicate (4 - (lg_sl ([.ref ax, .int y0, .int y1])).length) Slot.unset).toArray = ls at hl ⊢
  replace hl : lv_has ls 4 [(0, .ref ax), (1, .int y0), (2, .int y1)] := hl
  refine lv_aload_n hx hb dX11_write_0 rfl (lv_at hl 0 rfl) ?_
  refine lv_iload_n hx hb dX11_write_1 rfl (lv_at hl 1 rfl) ?_
  have hPc := hP.sub (ws' := [(ax, .inr (0, [.ref xt, .ref xp, .ref xs, .ref xl, .ref xb, .ref xk, .ref xm, .ref xq, .ref xg, .ref xf, .ref xe, .int 49])), (xl, .inr (2, [.ref bl, .ref no, .ref ro, .int 0]))]) [0, 1] rfl
  have hDc := hD.sub (ws' := [(ax, .inr (0, [.ref xt, .ref xp, .ref xs, .ref xl, .ref xb, .ref xk, .ref xm, .ref xq, .ref xg, .ref xf, .ref xe, .int 49])), (xl, .inr (2, [.ref bl, .ref no, .ref ro, .int 0]))]) [0, 1] (by decide) rfl
  have hFc := va_free (wc := [(ax, .inr (0, [.ref xt, .ref xp, .ref xs, .ref xl, .ref xb, .ref xk, .ref xm, .ref xq, .ref xg, .ref xf, .ref xe, .int 49])), (xl, .inr (2, [.ref bl, .ref no, .ref ro, .int 0]))]) hD hS hA [0, 1] rfl
  refine zx_call (E0 := "java/lang/IndexOutOfBoundsException") (vx_runV (As := [.int y0]) (rest := []) ⟨hx, hb, hml, hown, hw⟩ (c_checkChange_no l D dA dZ _ hfl ax xt xp xs xl xb xk xm xq xg xf xe bl no ro y0) (z_cwV 1 hw mw_789 mw_791 ms_16 mw_1 mw_792 rfl rfl (by decide +kernel) ⟨Nat.le_of_ble_eq_true rfl, Nat.le_of_ble_eq_true rfl⟩) (zPreV hPc hK hDc hT hE hS hFc (va_recv hK hP (ci := 0) (q0 := 0) rfl rfl)) rfl rfl hl.1 rfl (lv_room (Nat.le_of_ble_eq_true rfl)) dX11_write_2 ⟨Nat.le_of_ble_eq_true rfl, Nat.le_of_ble_eq_true rfl⟩) hS (fun q _ h => hFc q h) hFc (fun ce q9 H1 locs hz1 hk1 hS hce hcv hcl => ?_)
  exact vx_out (fun x hx => (hno x hx).elim) hlocks hce hcv hcl (fun t ht ha => zX_at hS ht) hS.2.2 (Nat.le_of_ble_eq_true rfl) (Nat.le_of_ble_eq_true rfl)
set_option maxHeartbeats 4000000 in
set_option maxRecDepth 100000 in
/-- holds on a fresh object: none -/
theorem c_holds_none (l : Launch) (D : va_G) (dA : Nat → ClassId) (dZ : Nat → Nat) (sz : Nat) (hfl : l.stackTraces = false) (ax : Nat) (xt : Nat) (xp : Nat) (xs : Nat) (xl : Nat) (xb : Nat) (xk : Nat) (xm : Nat) (xq : Nat) (xg : Nat) (xf : Nat) (xe : Nat) (i : Nat) (fk : Nat → Option Nat) (kn : Nat) (bk : Nat) (k1 : Nat) (k2 : Nat) (k3 : Nat) (k4 : Nat) (k5 : Nat) (k6 : Nat) (k7 : Nat) (k8 : Nat) (k9 : Nat) (b1 : Nat) (b2 : Nat) (b3 : Nat) (b4 : Nat) (bl : Nat) (no : Nat) (ro : Nat) (hd : Int32) (f1 : Nat → Int32) (f2 : Nat → Int32) (f5 : Nat → Int32) (fb : Nat → Option Nat) (y0 : Int32) (hi : i < 3) (hk : fk i = some kn) : vx_Met l yX11_holds (wz yX11_holds cX11_holds 4 (some .boolean)) ({ frames := 14, cells := 1, slots := 6, locals := 400 } : Room) (va_Pc [.ref ax, .int (nI i), .int y0] (zP D dA dZ [(ax, .inr (0, [.ref xt, .ref xp, .ref xs, .ref xl, .ref xb, .ref xk, .ref xm, .ref xq, .ref xg, .ref xf, .ref xe, .int 49])), (xk, .inl (dA 7, 3, .inr (.inr (.inr (.inr fk))))), (xb, .inl (dA 6, 3, .inr (.inr (.inr (.inr fb))))), (kn, .inr (6, [.ref bk, .ref xl, .ref k1, .ref k2, .ref k3, .int 0, .ref k4, .ref k5, .ref k6, .ref k7, .ref k8, .ref k9, .int (-1)])), (bk, .inr (5, [.int hd, .ref xl, .ref b1, .ref b2, .ref b3, .ref b4, .int 0, .int 0, .int 0])), (b3, .inl (dA 1, 250, .inl (fun _ => 0))), (xl, .inr (2, [.ref bl, .ref no, .ref ro, .int 0])), (k1, .inl (dA 0, 250, .inl f1)), (k2, .inl (dA 1, 250, .inl f2)), (k5, .inl (dA 0, 251, .inl f5))] sz)) zNo (zX "java/lang/IndexOutOfBoundsException" (va_A [(ax, .inr (0, [.ref xt, .ref xp, .ref xs, .ref xl, .ref xb, .ref xk, .ref xm, .ref xq, .ref xg, .ref xf, .ref xe, .int 49])), (xk, .inl (dA 7, 3, .inr (.inr (.inr (.inr fk))))), (xb, .inl (dA 6, 3, .inr (.inr (.inr (.inr fb))))), (kn, .inr (6, [.ref bk, .ref xl, .ref k1, .ref k2, .ref k3, .int 0, .ref k4, .ref k5, .ref k6, .ref k7, .ref k8, .ref k9, .int (-1)])), (bk, .inr (5, [.int hd, .ref xl, .ref b1, .ref b2, .ref b3, .ref b4, .int 0, .int 0, .int 0])), (b3, .inl (dA 1, 250, .inl (fun _ => 0))), (xl, .inr (2, [.ref bl, .ref no, .ref ro, .int 0])), (k1, .inl (dA 0, 250, .inl f1)), (k2, .inl (dA 1, 250, .inl f2)), (k5, .inl (dA 0, 251, .inl f5))] sz)) 1 6 (va_A [(ax, .inr (0, [.ref xt, .ref xp, .ref xs, .ref xl, .ref xb, .ref xk, .ref xm, .ref xq, .ref xg, .ref xf, .ref xe, .int 49])), (xk, .inl (dA 7, 3, .inr (.inr (.inr (.inr fk))))), (xb, .inl (dA 6, 3, .inr (.inr (.inr (.inr fb))))), (kn, .inr (6, [.ref bk, .ref xl, .ref k1, .ref k2, .ref k3, .int 0, .ref k4, .ref k5, .ref k6, .ref k7, .ref k8, .ref k9, .int (-1)])), (bk, .inr (5, [.int hd, .ref xl, .ref b1, .ref b2, .ref b3, .ref b4, .int 0, .int 0, .int 0])), (b3, .inl (dA 1, 250, .inl (fun _ => 0))), (xl, .inr (2, [.ref bl, .ref no, .ref ro, .int 0])), (k1, .inl (dA 0, 250, .inl f1)), (k2, .inl (dA 1, 250, .inl f2)), (k5, .inl (dA 0, 251, .inl f5))] sz) := by
  refine vx_ofW (cc := cX11_holds) (maxL := 4) (ret := (some .boolean)) (by decide) rfl ?_
  intro p e s m args below meth c s₁ B hml hno hv
  obtain ⟨rfl, hsz, hP, hK, hD0, hT, hE⟩ := hv
  have hx := B.exec
  have hb := B.bytes
  have hr := B.returns
  have hw := wz_hw (atoms_spec (ws := wz yX11_holds cX11_holds 4 (some .boolean)) B.pre)
  have hown : s.vm.findClass "KindredBooks" = some m.cls := findClass_of_methodNamed B.named
  have hlocks := B.notSynchronized
  have hn := hT.1.use (args := ([.ref ax, .int (nI i), .int y0] : List Value).toArray)
  subst hsz
  have hD := hD0.self (sz := s.heap.size)
  generalize hAe : va_A [(ax, .inr (0, [.ref xt, .ref xp, .ref xs, .ref xl, .ref xb, .ref xk, .ref xm, .ref xq, .ref xg, .ref xf, .ref xe, .int 49])), (xk, .inl (dA 7, 3, .inr (.inr (.inr (.inr fk))))), (xb, .inl (dA 6, 3, .inr (.inr (.inr (.inr fb))))), (kn, .inr (6, [.ref bk, .ref xl, .ref k1, .ref k2, .ref k3, .int 0, .ref k4, .ref k5, .ref k6, .ref k7, .ref k8, .ref k9, .int (-1)])), (bk, .inr (5, [.int hd, .ref xl, .ref b1, .ref b2, .ref b3, .ref b4, .int 0, .int 0, .int 0])), (b3, .inl (dA 1, 250, .inl (fun _ => 0))), (xl, .inr (2, [.ref bl, .ref no, .ref ro, .int 0])), (k1, .inl (dA 0, 250, .inl f1)), (k2, .inl (dA 1, 250, .inl f2)), (k5, .inl (dA 0, 251, .inl f5))] s.heap.size = A at hD hE ⊢
  have hA : ∀ q : Nat, s.heap.size ≤ q → A q := fun q h => by rw [← hAe]; exact Or.inr h
  have hS : va_S A s.heap s.heap [] := va_S.rf
  replace hP : va_P D zcl [(ax, .inr (0, [.ref xt, .ref xp, .ref xs, .ref xl, .ref xb, .ref xk, .ref xm, .ref xq, .ref xg, .ref xf, .ref xe, .int 49])), (xk, .inl (dA 7, 3, .inr (.inr (.inr (.inr fk))))), (xb, .inl (dA 6, 3, .inr (.inr (.inr (.inr fb))))), (kn, .inr (6, [.ref bk, .ref xl, .ref k1, .ref k2, .ref k3, .int 0, .ref k4, .ref k5, .ref k6, .ref k7, .ref k8, .ref k9, .int (-1)])), (bk, .inr (5, [.int hd, .ref xl, .ref b1, .ref b2, .ref b3, .ref b4, .int 0, .int 0, .int 0])), (b3, .inl (dA 1, 250, .inl (fun _ => 0))), (xl, .inr (2, [.ref bl, .ref no, .ref ro, .int 0])), (k1, .inl (dA 0, 250, .inl f1)), (k2, .inl (dA 1, 250, .inl f2)), (k5, .inl (dA 0, 251, .inl f5))] s.heap := hP
  have hl := lv_entry ([.ref ax, .int (nI i), .int y0]) (n := 4) (Nat.le_of_ble_eq_true rfl)
  rw [lg_entry_eq]
  generalize (lg_sl ([.ref ax, .int (nI i), .int y0]) ++ List.replicate (4 - (lg_sl ([.ref ax, .int (nI i), .int y0])).length) Slot.unset).toArray = ls at hl ⊢
  replace hl : lv_has ls 4 [(0, .ref ax), (1, .int (nI i)), (2, .int y0)] := hl
  refine lv_aload_n hx hb dX11_holds_0 rfl (lv_at hl 0 rfl) ?_
  refine lv_iload_n hx hb dX11_holds_1 rfl (lv_at hl 1 rfl) ?_
  have hPc := hP.sub (ws' := [(ax, .inr (0, [.ref xt, .ref xp, .ref xs, .ref xl, .ref xb, .ref xk, .ref xm, .ref xq, .ref xg, .ref xf, .ref xe, .int 49])), (xk, .inl (dA 7, 3, .inr (.inr (.inr (.inr fk))))), (kn, .inr (6, [.ref bk, .ref xl, .ref k1, .ref k2, .ref k3, .int 0, .ref k4, .ref k5, .ref k6, .ref k7, .ref k8, .ref k9, .int (-1)])), (bk, .inr (5, [.int hd, .ref xl, .ref b1, .ref b2, .ref b3, .ref b4, .int 0, .int 0, .int 0])), (b3, .inl (dA 1, 250, .inl (fun _ => 0))), (xl, .inr (2, [.ref bl, .ref no, .ref ro, .int 0])), (k1, .inl (dA 0, 250, .inl f1)), (k2, .inl (dA 1, 250, .inl f2)), (k5, .inl (dA 0, 251, .inl f5))]) [0, 1, 3, 4, 5, 6, 7, 8, 9] rfl
  have hDc := hD.sub (ws' := [(ax, .inr (0, [.ref xt, .ref xp, .ref xs, .ref xl, .ref xb, .ref xk, .ref xm, .ref xq, .ref xg, .ref xf, .ref xe, .int 49])), (xk, .inl (dA 7, 3, .inr (.inr (.inr (.inr fk))))), (kn, .inr (6, [.ref bk, .ref xl, .ref k1, .ref k2, .ref k3, .int 0, .ref k4, .ref k5, .ref k6, .ref k7, .ref k8, .ref k9, .int (-1)])), (bk, .inr (5, [.int hd, .ref xl, .ref b1, .ref b2, .ref b3, .ref b4, .int 0, .int 0, .int 0])), (b3, .inl (dA 1, 250, .inl (fun _ => 0))), (xl, .inr (2, [.ref bl, .ref no, .ref ro, .int 0])), (k1, .inl (dA 0, 250, .inl f1)), (k2, .inl (dA 1, 250, .inl f2)), (k5, .inl (dA 0, 251, .inl f5))]) [0, 1, 3, 4, 5, 6, 7, 8, 9] (by decide) rfl
  have hFc := va_free (wc := [(ax, .inr (0, [.ref xt, .ref xp, .ref xs, .ref xl, .ref xb, .ref xk, .ref xm, .ref xq, .ref xg, .ref xf, .ref xe, .int 49])), (xk, .inl (dA 7, 3, .inr (.inr (.inr (.inr fk))))), (kn, .inr (6, [.ref bk, .ref xl, .ref k1, .ref k2, .ref k3, .int 0, .ref k4, .ref k5, .ref k6, .ref k7, .ref k8, .ref k9, .int (-1)])), (bk, .inr (5, [.int hd, .ref xl, .ref b1, .ref b2, .ref b3, .ref b4, .int 0, .int 0, .int 0])), (b3, .inl (dA 1, 250, .inl (fun _ => 0))), (xl, .inr (2, [.ref bl, .ref no, .ref ro, .int 0])), (k1, .inl (dA 0, 250, .inl f1)), (k2, .inl (dA 1, 250, .inl f2)), (k5, .inl (dA 0, 251, .inl f5))]) hD hS hA [0, 1, 3, 4, 5, 6, 7, 8, 9] rfl
  refine va_callq (va_runV (As := [.int (nI i)]) (rest := []) ⟨hx, hb, hml, hown, hw⟩ (c_kinOf l D dA dZ _ ax xt xp xs xl xb xk xm xq xg xf xe i fk kn bk k1 k2 k3 k4 k5 k6 k7 k8 k9 b1 b2 b3 b4 bl no ro hd f1 f2 f5 hi hk) (z_cwV 1 hw mw_863 mw_865 ms_17 mw_1 mw_866 rfl rfl (by decide +kernel) ⟨Nat.le_of_ble_eq_true rfl, Nat.le_of_ble_eq_true rfl⟩) (zPreV hPc hK hDc hT hE hS hFc (va_recv hK hP (ci := 0) (q0 := 0) rfl rfl)) rfl rfl hl.1 rfl (lv_room (Nat.le_of_ble_eq_true rfl)) dX11_holds_2 ⟨Nat.le_of_ble_eq_true rfl, Nat.le_of_ble_eq_true rfl⟩) hS (fun q _ h => hFc q h) hFc (fun r_1 u t H1 locs ht hvm hpo hB hz1 hk1 hS => ?_)
  obtain ⟨g1, g2, g5⟩ := u
  try dsimp only at hpo hB
  obtain ⟨hP1, hD1⟩ := hB
  rw [ht] at hP1
  obtain ⟨hP, hD⟩ := va_join (wr := [(xb, .inl (dA 6, 3, .inr (.inr (.inr (.inr fb)))))]) (w1 := [(ax, .inr (0, [.ref xt, .ref xp, .ref xs, .ref xl, .ref xb, .ref xk, .ref xm, .ref xq, .ref xg, .ref xf, .ref xe, .int 49])), (xk, .inl (dA 7, 3, .inr (.inr (.inr (.inr fk))))), (kn, .inr (6, [.ref bk, .ref xl, .ref k1, .ref k2, .ref k3, .int 0, .ref k4, .ref k5, .ref k6, .ref k7, .ref k8, .ref k9, .int 0])), (bk, .inr (5, [.int hd, .ref xl, .ref b1, .ref b2, .ref b3, .ref b4, .int 0, .int 0, .int 0])), (b3, .inl (dA 1, 250, .inl (fun _ => 0))), (xl, .inr (2, [.ref bl, .ref no, .ref ro, .int 0])), (k1, .inl (dA 0, 250, .inl g1)), (k2, .inl (dA 1, 250, .inl g2)), (k5, .inl (dA 0, 251, .inl g5))]) hP hD [0, 1, 3, 4, 5, 6, 7, 8, 9] [2] rfl rfl (by decide) (by decide) hk1 hFc hP1 hD1
  generalize H1 = H at hP hS ⊢
  have hP : va_P D zcl [(xb, .inl (dA 6, 3, .inr (.inr (.inr (.inr fb))))), (ax, .inr (0, [.ref xt, .ref xp, .ref xs, .ref xl, .ref xb, .ref xk, .ref xm, .ref xq, .ref xg, .ref xf, .ref xe, .int 49])), (xk, .inl (dA 7, 3, .inr (.inr (.inr (.inr fk))))), (kn, .inr (6, [.ref bk, .ref xl, .ref k1, .ref k2, .ref k3, .int 0, .ref k4, .ref k5, .ref k6, .ref k7, .ref k8, .ref k9, .int 0])), (bk, .inr (5, [.int hd, .ref xl, .ref b1, .ref b2, .ref b3, .ref b4, .int 0, .int 0, .int 0])), (b3, .inl (dA 1, 250, .inl (fun _ => 0))), (xl, .inr (2, [.ref bl, .ref no, .ref ro, .int 0])), (k1, .inl (dA 0, 250, .inl g1)), (k2, .inl (dA 1, 250, .inl g2)), (k5, .inl (dA 0, 251, .inl g5))] H := hP
  have hD : va_D A [(xb, .inl (dA 6, 3, .inr (.inr (.inr (.inr fb))))), (ax, .inr (0, [.ref xt, .ref xp, .ref xs, .ref xl, .ref xb, .ref xk, .ref xm, .ref xq, .ref xg, .ref xf, .ref xe, .int 49])), (xk, .inl (dA 7, 3, .inr (.inr (.inr (.inr fk))))), (kn, .inr (6, [.ref bk, .ref xl, .ref k1, .ref k2, .ref k3, .int 0, .ref k4, .ref k5, .ref k6, .ref k7, .ref k8, .ref k9, .int 0])), (bk, .inr (5, [.int hd, .ref xl, .ref b1, .ref b2, .ref b3, .ref b4, .int 0, .int 0, .int 0])), (b3, .inl (dA 1, 250, .inl (fun _ => 0))), (xl, .inr (2, [.ref bl, .ref no, .ref ro, .int 0])), (k1, .inl (dA 0, 250, .inl g1)), (k2, .inl (dA 1, 250, .inl g2)), (k5, .inl (dA 0, 251, .inl g5))] := hD
  obtain rfl : r_1 = (some kn) := hpo
  refine lv_astore_n (lv' := [(3, .ref kn), (0, .ref ax), (1, .int (nI i)), (2, .int y0)]) hx hb dX11_holds_5 rfl hl (by decide) rfl (fun ls hl => ?_)
  refine lv_aload_n hx hb dX11_holds_6 rfl (lv_at hl 1 rfl) ?_
  refine lv_iload_n hx hb dX11_holds_7 rfl (lv_at hl 3 rfl) ?_
  have hPc := hP.sub (ws' := [(ax, .inr (0, [.ref xt, .ref xp, .ref xs, .ref xl, .ref xb, .ref xk, .ref xm, .ref xq, .ref xg, .ref xf, .ref xe, .int 49])), (xl, .inr (2, [.ref bl, .ref no, .ref ro, .int 0]))]) [1, 6] rfl
  have hDc := hD.sub (ws' := [(ax, .inr (0, [.ref xt, .ref xp, .ref xs, .ref xl, .ref xb, .ref xk, .ref xm, .ref xq, .ref xg, .ref xf, .ref xe, .int 49])), (xl, .inr (2, [.ref bl, .ref no, .ref ro, .int 0]))]) [1, 6] (by decide) rfl
  have hFc := va_free (wc := [(ax, .inr (0, [.ref xt, .ref xp, .ref xs, .ref xl, .ref xb, .ref xk, .ref xm, .ref xq, .ref xg, .ref xf, .ref xe, .int 49])), (xl, .inr (2, [.ref bl, .ref no, .ref ro, .int 0]))]) hD hS hA [1, 6] rfl
  refine zx_call (E0 := "java/lang/IndexOutOfBoundsException") (vx_runV (As := [.int y0]) (rest := []) ⟨hx, hb, hml, hown, hw⟩ (c_checkChange_no l D dA dZ _ hfl ax xt xp xs xl xb xk xm xq xg xf xe bl no ro y0) (z_cwV 1 hw mw_789 mw_791 ms_16 mw_1 mw_792 rfl rfl (by decide +kernel) ⟨Nat.le_of_ble_eq_true rfl, Nat.le_of_ble_eq_true rfl⟩) (zPreV hPc hK hDc hT hE hS hFc (va_recv hK hP (ci := 0) (q0 := 1) rfl rfl)) rfl rfl hl.1 rfl (lv_room (Nat.le_of_ble_eq_true rfl)) dX11_holds_8 ⟨Nat.le_of_ble_eq_true rfl, Nat.le_of_ble_eq_true rfl⟩) hS (fun q _ h => hFc q h) hFc (fun ce q9 H1 locs hz1 hk1 hS hce hcv hcl => ?_)
  exact vx_out (fun x hx => (hno x hx).elim) hlocks hce hcv hcl (fun t ht ha => zX_at hS ht) hS.2.2 (Nat.le_of_ble_eq_true rfl) (Nat.le_of_ble_eq_true rfl)
end
