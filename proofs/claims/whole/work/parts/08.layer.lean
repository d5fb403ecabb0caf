/-! THE LAYER: a judgement zG over the kit's W that keeps the heap's world, its apartness and the locals inside; contracts zR (reads only) and zW (writes its world), both with exact answers. -/
def zNL : List (String × Nat × MethodName) := [(RX5, 11, yX4_init), (RX5, 20, yX2_init), (RX5, 27, yX0_init), (RX5, 34, yX1_init), (RX5, 45, yX3_init), (RX0, 11, yX4_init), (RX2, 37, yX5_wishOf), (RX4, 54, yX5_turnOf), (RX4, 58, yX5_wishOf)]
def zN (U : State) : Prop := ∀ q ∈ zNL, va_Nw (.methodLinkNest q.1 q.2.1 q.2.2 RX5) U
abbrev zT (cI cO : ClassId) : List (ClassId × FieldType) := [(cI, .int), (cO, .object RX3)]
def zK (D : va_G) (cI cO : ClassId) (U : State) : Prop := va_K D vwCl (zT cI cO) U ∧ zN U
theorem zK.warm {D : va_G} {cI cO : ClassId} {s U : State} (h : zK D cI cO s) (hW : s.WarmedH U.vm) : zK D cI cO U := ⟨va_K.moved hW.alike h.1, fun q hq => va_Nw.warmM hW (h.2 q hq)⟩
theorem zK.blind {D : va_G} {cI cO : ClassId} {U : State} {g : JFrame} {mk : MethodId} {a : Array Value} (h : zK D cI cO U) : zK D cI cO (U.calling g mk a) := ⟨va_K.moved (u := U) (U := U.calling g mk a) (Vm.Alike.refl U.vm) h.1, fun q hq => va_Nw.same rfl rfl (h.2 q hq)⟩
/-- the world's own addresses -/
def zA (ws : va_W) : Nat → Prop := fun q => ∃ (k : Nat) (e : va_E), ws[k]? = some (q, e)
def zPc (D : va_G) (cI cO : ClassId) (av : List Value) (w0 : va_W) : Array Value → State → Prop := va_Pc av (fun U => va_P D vwCl w0 U.heap ∧ zK D cI cO U ∧ va_D (fun _ => True) w0)
theorem zPc.blind {D : va_G} {cI cO : ClassId} {av : List Value} {w0 : va_W} : FrameBlind (zPc D cI cO av w0) := fun a U g mk q => ⟨q.1, q.2.1, q.2.2.1.blind, q.2.2.2⟩
def zQr (v : Option Value) : Array Value → State → Outcome → State → Prop := fun _ st o t => o = .returned v ∧ t.heap = st.heap
def zQw (D : va_G) (w1 : va_W) (A : Nat → Prop) (v : Option Value) : Array Value → State → Outcome → State → Prop := fun _ st o t => (o = .returned v ∧ va_P D vwCl w1 t.heap) ∧ va_F A st t
/-- a contract that reads only -/
def zR (l : Launch) (y : MethodName) (ws : List Cond) (rm : Room) (D : va_G) (cI cO : ClassId) (av : List Value) (w0 : va_W) (v : Option Value) : Prop := Met l y ws rm (zPc D cI cO av w0) (zQr v) 0 0 (fun _ => False)
/-- a contract that writes its world -/
def zW (l : Launch) (y : MethodName) (ws : List Cond) (rm : Room) (D : va_G) (cI cO : ClassId) (av : List Value) (w0 w1 : va_W) (v : Option Value) : Prop := Met l y ws rm (zPc D cI cO av w0) (zQw D w1 (zA w0) v) 0 0 (zA w0)
def zC (p : Program) (s : State) (m : MethodId) (args : Array Value) (c : Code) (cc : ByteArray) (nL : Nat) (own : String) (Ts : List Cond) (D : va_G) (cI cO : ClassId) : Prop := p.tables.exec = Jvm.exec ∧ c.code = cc ∧ c.maxLocals = nL ∧ s.vm.findClass own = some m.cls ∧ (∀ w ∈ Ts, w.before args s = true) ∧ zK D cI cO s
def zG (p : Program) (l : Launch) (e : Env) (R : Room) (s : State) (m : MethodId) (args : Array Value) (below : List Frame) (meth : Method) (c : Code) (D : va_G) (A : Nat → Prop) (X : Heap → List Loc → Prop) (nL cells slots : Nat) (Q : State → Prop) (pc : Nat) (ls : List (Nat × Value)) (st : List Value) (ws : va_W) : Prop :=
  ∀ (H : Heap) (locs : List Loc) (la : Array Slot), va_P D vwCl ws H → va_D A ws → X H locs → lv_has la nL ls → W p l e R s m args below meth c H locs cells slots Q (F0 m pc la st)
abbrev zXr (s : State) : Heap → List Loc → Prop := fun H locs => H = s.heap ∧ locs = []
abbrev zXw (A : Nat → Prop) (H0 : Heap) : Heap → List Loc → Prop := fun H locs => va_S A H0 H locs
/-- the world with a callee's cells put back in their places -/
def zput : va_W → List Nat → va_W → va_W
  | ws, i :: is, q :: w1 => zput (ws.set i q) is w1
  | ws, _, _ => ws
theorem zput_fst : ∀ (is : List Nat) (w1 ws : va_W), is.map (fun i => (ws[i]?).map Prod.fst) = w1.map (fun q => some q.1) → ∀ k : Nat, ((zput ws is w1)[k]?).map Prod.fst = (ws[k]?).map Prod.fst := by
  intro is
  induction is with
  | nil => intro w1 ws h k; cases w1 <;> rfl
  | cons i is ih =>
    intro w1 ws h k
    cases w1 with
    | nil => rfl
    | cons q w1 =>
      simp only [List.map_cons, List.cons.injEq] at h
      obtain ⟨h1, h2⟩ := h
      have hs : ∀ j : Nat, ((ws.set i q)[j]?).map Prod.fst = (ws[j]?).map Prod.fst := by
        intro j
        by_cases hj : i = j
        · subst hj
          by_cases hl : i < ws.length
          · rw [List.getElem?_set_self hl, h1]; rfl
          · rw [List.getElem?_eq_none (by rw [List.length_set]; omega), List.getElem?_eq_none (by omega)]
        · rw [List.getElem?_set_ne hj]
      rw [zput, ih w1 (ws.set i q) (by rw [← h2]; exact List.map_congr_left fun j _ => hs j) k, hs k]
theorem zput_at : ∀ (is : List Nat) (w1 ws : va_W) (k : Nat) (q : Nat × va_E), (zput ws is w1)[k]? = some q → (k ∉ is ∧ ws[k]? = some q) ∨ q ∈ w1 ∨ (k ∈ is.drop w1.length ∧ ws[k]? = some q) := by
  intro is
  induction is with
  | nil => intro w1 ws k q h; left; exact ⟨List.not_mem_nil, by cases w1 <;> exact h⟩
  | cons i is ih =>
    intro w1 ws k q h
    cases w1 with
    | nil =>
      by_cases hk : k ∈ i :: is
      · right; right; exact ⟨by simpa using hk, h⟩
      · left; exact ⟨hk, h⟩
    | cons q1 w1 =>
      rcases ih w1 (ws.set i q1) k q h with ⟨h1, h2⟩ | h1 | ⟨h1, h2⟩
      · by_cases hj : i = k
        · subst hj
          by_cases hl : i < ws.length
          · rw [List.getElem?_set_self hl] at h2
            right; left
            rw [← Option.some.inj h2]; exact List.mem_cons_self
          · rw [List.getElem?_eq_none (by rw [List.length_set]; omega)] at h2; cases h2
        · rw [List.getElem?_set_ne hj] at h2
          left
          exact ⟨fun hm => by rcases List.mem_cons.mp hm with e | e; exact hj e.symm; exact h1 e, h2⟩
      · right; left; exact List.mem_cons_of_mem _ h1
      · by_cases hj : i = k
        · subst hj
          by_cases hl : i < ws.length
          · rw [List.getElem?_set_self hl] at h2
            right; left
            rw [← Option.some.inj h2]; exact List.mem_cons_self
          · rw [List.getElem?_eq_none (by rw [List.length_set]; omega)] at h2; cases h2
        · rw [List.getElem?_set_ne hj] at h2
          right; right; exact ⟨h1, h2⟩
theorem zD_fst {A : Nat → Prop} {ws ws' : va_W} (hD : va_D A ws) (h : ∀ k : Nat, (ws'[k]?).map Prod.fst = (ws[k]?).map Prod.fst) : va_D A ws' := by
  have g : ∀ (k : Nat) (q : Nat × va_E), ws'[k]? = some q → ∃ q0, ws[k]? = some q0 ∧ q0.1 = q.1 := by
    intro k q hq
    have := h k
    rw [hq] at this
    cases hk : ws[k]? with
    | none => rw [hk] at this; cases this
    | some q0 => rw [hk] at this; exact ⟨q0, rfl, (Option.some.inj this).symm⟩
  refine ⟨fun i j x y hx hy hxy => ?_, fun k q hq => ?_⟩
  · obtain ⟨x0, a1, a2⟩ := g i x hx
    obtain ⟨y0, b1, b2⟩ := g j y hy
    exact hD.1 i j x0 y0 a1 b1 (by rw [a2, b2]; exact hxy)
  · obtain ⟨q0, a1, a2⟩ := g k q hq
    rw [← a2]; exact hD.2 k q0 a1
section ZG
variable {p : Program} {l : Launch} {e : Env} {R : Room} {s : State} {m : MethodId} {args : Array Value} {below : List Frame} {meth : Method} {c : Code} {D : va_G} {A : Nat → Prop} {X : Heap → List Loc → Prop} {nL cells slots : Nat} {Q : State → Prop} {pc : Nat} {ls : List (Nat × Value)} {st : List Value} {ws : va_W} {cc : ByteArray} {own : String} {Ts : List Cond} {cI cO : ClassId}
theorem zR_of {y : MethodName} {wsy wsy' : List Cond} {rm : Room} {av : List Value} {w0 : va_W} {v : Option Value} {ret : Option FieldType} (hcls : plainName y.cls = true) (hw : wsy = Cond.code y cc nL ret :: wsy') (hn : (lg_sl av).length ≤ nL) {lv : List (Nat × Value)} (hlv : lv_args 0 av = lv)
    (body : ∀ (p : Program) (e : Env) (s : State) (m : MethodId) (args : Array Value) (below : List Frame) (meth : Method) (c : Code), zC p s m args c cc nL y.cls wsy D cI cO → meth.sig.returnType = ret → meth.locks = false → zG p l e rm s m args below meth c D (fun _ => True) (zXr s) nL 0 0 (MQ below (zQr v) args s 0 0 (fun _ => False)) 0 lv [] w0) : zR l y wsy rm D cI cO av w0 v := by
  subst hlv
  refine Met.ofW (cc := cc) (maxL := nL) (ret := ret) hcls hw ?_
  intro p e s m args below meth c s₁ B hml hv
  obtain ⟨rfl, hP, hK, hD⟩ := hv
  have h := body p e s m _ below meth c ⟨B.exec, B.bytes, hml, findClass_of_methodNamed B.named, atoms_spec (ws := wsy) B.pre, hK⟩ B.returns B.notSynchronized s.heap [] _ hP hD ⟨rfl, rfl⟩ (lv_entry av hn)
  rw [lg_entry_eq]
  exact h
theorem zW_of {y : MethodName} {wsy wsy' : List Cond} {rm : Room} {av : List Value} {w0 w1 : va_W} {v : Option Value} {ret : Option FieldType} (hcls : plainName y.cls = true) (hw : wsy = Cond.code y cc nL ret :: wsy') (hn : (lg_sl av).length ≤ nL) {lv : List (Nat × Value)} (hlv : lv_args 0 av = lv)
    (body : ∀ (p : Program) (e : Env) (s : State) (m : MethodId) (args : Array Value) (below : List Frame) (meth : Method) (c : Code), zC p s m args c cc nL y.cls wsy D cI cO → meth.sig.returnType = ret → meth.locks = false → zG p l e rm s m args below meth c D (zA w0) (zXw (zA w0) s.heap) nL 0 0 (MQ below (zQw D w1 (zA w0) v) args s 0 0 (zA w0)) 0 lv [] w0) : zW l y wsy rm D cI cO av w0 w1 v := by
  subst hlv
  refine Met.ofW (cc := cc) (maxL := nL) (ret := ret) hcls hw ?_
  intro p e s m args below meth c s₁ B hml hv
  obtain ⟨rfl, hP, hK, hD⟩ := hv
  have h := body p e s m _ below meth c ⟨B.exec, B.bytes, hml, findClass_of_methodNamed B.named, atoms_spec (ws := wsy) B.pre, hK⟩ B.returns B.notSynchronized s.heap [] _ hP (hD.weaken (fun k q hk _ => ⟨k, q.2, hk⟩)) va_S.rf (lv_entry av hn)
  rw [lg_entry_eq]
  exact h

theorem z_iconst (C : zC p s m args c cc nL own Ts D cI cO) {n : Int} {v : Int32} (hdg : decode cc pc = .ok (.iconst n, 1)) (hv : Int32.ofInt n = v)
    (kk : zG p l e R s m args below meth c D A X nL cells slots Q (pc + 1) ls (.int v :: st) ws) : zG p l e R s m args below meth c D A X nL cells slots Q pc ls st ws := fun H locs la hP hD hX hl => lv_iconst C.1 C.2.1 hdg hv (kk H locs la hP hD hX hl)
theorem z_bipush (C : zC p s m args c cc nL own Ts D cI cO) {n : Int} {v : Int32} (hdg : decode cc pc = .ok (.bipush n, 2)) (hv : (Int8.ofInt n).toInt32 = v)
    (kk : zG p l e R s m args below meth c D A X nL cells slots Q (pc + 2) ls (.int v :: st) ws) : zG p l e R s m args below meth c D A X nL cells slots Q pc ls st ws := fun H locs la hP hD hX hl => lv_bipush C.1 C.2.1 hdg hv (kk H locs la hP hD hX hl)
theorem z_sipush (C : zC p s m args c cc nL own Ts D cI cO) {n : Int} {v : Int32} (hdg : decode cc pc = .ok (.sipush n, 3)) (hv : (Int16.ofInt n).toInt32 = v)
    (kk : zG p l e R s m args below meth c D A X nL cells slots Q (pc + 3) ls (.int v :: st) ws) : zG p l e R s m args below meth c D A X nL cells slots Q pc ls st ws := fun H locs la hP hD hX hl => lv_sipush C.1 C.2.1 hdg hv (kk H locs la hP hD hX hl)
theorem z_lconst (C : zC p s m args c cc nL own Ts D cI cO) {n : Fin 2} {v : Int64} (hdg : decode cc pc = .ok (.lconst n, 1)) (hv : Int64.ofNat (n : Nat) = v)
    (kk : zG p l e R s m args below meth c D A X nL cells slots Q (pc + 1) ls (.long v :: st) ws) : zG p l e R s m args below meth c D A X nL cells slots Q pc ls st ws := fun H locs la hP hD hX hl => lv_lconst C.1 C.2.1 hdg hv (kk H locs la hP hD hX hl)
theorem z_ldc2 (C : zC p s m args c cc nL own Ts D cI cO) {index : Nat} {v : Int64} (hw : Jvm.Cond.constantLong own index v ∈ Ts) (hdg : decode cc pc = .ok (.ldc2_w index, 3))
    (kk : zG p l e R s m args below meth c D A X nL cells slots Q (pc + 3) ls (.long v :: st) ws) : zG p l e R s m args below meth c D A X nL cells slots Q pc ls st ws := fun H locs la hP hD hX hl => lv_ldc2 C.1 C.2.1 C.2.2.2.1 (C.2.2.2.2.1 _ hw) hdg (kk H locs la hP hD hX hl)
theorem z_iload_n (C : zC p s m args c cc nL own Ts D cI cO) {k : Fin 4} {i : Nat} {x : Int32} (hdg : decode cc pc = .ok (.iload_n k, 1)) (hi : (k : Nat) = i) (j : Nat) (hj : ls[j]? = some (i, .int x))
    (kk : zG p l e R s m args below meth c D A X nL cells slots Q (pc + 1) ls (.int x :: st) ws) : zG p l e R s m args below meth c D A X nL cells slots Q pc ls st ws := fun H locs la hP hD hX hl => lv_iload_n C.1 C.2.1 hdg hi (lv_at hl j hj) (kk H locs la hP hD hX hl)
theorem z_iload (C : zC p s m args c cc nL own Ts D cI cO) {i : Nat} {x : Int32} (hdg : decode cc pc = .ok (.iload i, 2)) (j : Nat) (hj : ls[j]? = some (i, .int x))
    (kk : zG p l e R s m args below meth c D A X nL cells slots Q (pc + 2) ls (.int x :: st) ws) : zG p l e R s m args below meth c D A X nL cells slots Q pc ls st ws := fun H locs la hP hD hX hl => lv_iload C.1 C.2.1 hdg (lv_at hl j hj) (kk H locs la hP hD hX hl)
theorem z_lload_n (C : zC p s m args c cc nL own Ts D cI cO) {k : Fin 4} {i : Nat} {x : Int64} (hdg : decode cc pc = .ok (.lload_n k, 1)) (hi : (k : Nat) = i) (j : Nat) (hj : ls[j]? = some (i, .long x))
    (kk : zG p l e R s m args below meth c D A X nL cells slots Q (pc + 1) ls (.long x :: st) ws) : zG p l e R s m args below meth c D A X nL cells slots Q pc ls st ws := fun H locs la hP hD hX hl => lv_lload_n C.1 C.2.1 hdg hi (lv_at hl j hj) (kk H locs la hP hD hX hl)
theorem z_lload (C : zC p s m args c cc nL own Ts D cI cO) {i : Nat} {x : Int64} (hdg : decode cc pc = .ok (.lload i, 2)) (j : Nat) (hj : ls[j]? = some (i, .long x))
    (kk : zG p l e R s m args below meth c D A X nL cells slots Q (pc + 2) ls (.long x :: st) ws) : zG p l e R s m args below meth c D A X nL cells slots Q pc ls st ws := fun H locs la hP hD hX hl => lv_lload C.1 C.2.1 hdg (lv_at hl j hj) (kk H locs la hP hD hX hl)
theorem z_aload_n (C : zC p s m args c cc nL own Ts D cI cO) {k : Fin 4} {i : Nat} {x : Nat} (hdg : decode cc pc = .ok (.aload_n k, 1)) (hi : (k : Nat) = i) (j : Nat) (hj : ls[j]? = some (i, .ref x))
    (kk : zG p l e R s m args below meth c D A X nL cells slots Q (pc + 1) ls (.ref x :: st) ws) : zG p l e R s m args below meth c D A X nL cells slots Q pc ls st ws := fun H locs la hP hD hX hl => lv_aload_n C.1 C.2.1 hdg hi (lv_at hl j hj) (kk H locs la hP hD hX hl)
theorem z_aload (C : zC p s m args c cc nL own Ts D cI cO) {i : Nat} {x : Nat} (hdg : decode cc pc = .ok (.aload i, 2)) (j : Nat) (hj : ls[j]? = some (i, .ref x))
    (kk : zG p l e R s m args below meth c D A X nL cells slots Q (pc + 2) ls (.ref x :: st) ws) : zG p l e R s m args below meth c D A X nL cells slots Q pc ls st ws := fun H locs la hP hD hX hl => lv_aload C.1 C.2.1 hdg (lv_at hl j hj) (kk H locs la hP hD hX hl)
theorem z_istore_n (C : zC p s m args c cc nL own Ts D cI cO) {k : Fin 4} {i : Nat} {x : Int32} (lv : List (Nat × Value)) (hdg : decode cc pc = .ok (.istore_n k, 1)) (hi : (k : Nat) = i) (hn : i < nL) (ks : List Nat) (hk : lv_pick ((i, Value.int x) :: ls.filter (fun q => !(q.1 == i) && !(q.1 + 1 == i && q.2.category == 2))) ks = lv)
    (kk : zG p l e R s m args below meth c D A X nL cells slots Q (pc + 1) lv st ws) : zG p l e R s m args below meth c D A X nL cells slots Q pc ls (.int x :: st) ws := fun H locs la hP hD hX hl => lv_istore_n C.1 C.2.1 hdg hi hl hn rfl (fun la2 hl2 => kk H locs la2 hP hD hX (lv_sub hl2 ks hk))
theorem z_istore (C : zC p s m args c cc nL own Ts D cI cO) {i : Nat} {x : Int32} (lv : List (Nat × Value)) (hdg : decode cc pc = .ok (.istore i, 2)) (hn : i < nL) (ks : List Nat) (hk : lv_pick ((i, Value.int x) :: ls.filter (fun q => !(q.1 == i) && !(q.1 + 1 == i && q.2.category == 2))) ks = lv)
    (kk : zG p l e R s m args below meth c D A X nL cells slots Q (pc + 2) lv st ws) : zG p l e R s m args below meth c D A X nL cells slots Q pc ls (.int x :: st) ws := fun H locs la hP hD hX hl => lv_istore C.1 C.2.1 hdg hl hn rfl (fun la2 hl2 => kk H locs la2 hP hD hX (lv_sub hl2 ks hk))
theorem z_lstore_n (C : zC p s m args c cc nL own Ts D cI cO) {k : Fin 4} {i : Nat} {x : Int64} (lv : List (Nat × Value)) (hdg : decode cc pc = .ok (.lstore_n k, 1)) (hi : (k : Nat) = i) (hn : i + 1 < nL) (ks : List Nat) (hk : lv_pick ((i, Value.long x) :: ls.filter (fun q => !(q.1 == i) && (!(q.1 == i + 1) && !(q.1 + 1 == i && q.2.category == 2)))) ks = lv)
    (kk : zG p l e R s m args below meth c D A X nL cells slots Q (pc + 1) lv st ws) : zG p l e R s m args below meth c D A X nL cells slots Q pc ls (.long x :: st) ws := fun H locs la hP hD hX hl => lv_lstore_n C.1 C.2.1 hdg hi hl hn rfl (fun la2 hl2 => kk H locs la2 hP hD hX (lv_sub hl2 ks hk))
theorem z_lstore (C : zC p s m args c cc nL own Ts D cI cO) {i : Nat} {x : Int64} (lv : List (Nat × Value)) (hdg : decode cc pc = .ok (.lstore i, 2)) (hn : i + 1 < nL) (ks : List Nat) (hk : lv_pick ((i, Value.long x) :: ls.filter (fun q => !(q.1 == i) && (!(q.1 == i + 1) && !(q.1 + 1 == i && q.2.category == 2)))) ks = lv)
    (kk : zG p l e R s m args below meth c D A X nL cells slots Q (pc + 2) lv st ws) : zG p l e R s m args below meth c D A X nL cells slots Q pc ls (.long x :: st) ws := fun H locs la hP hD hX hl => lv_lstore C.1 C.2.1 hdg hl hn rfl (fun la2 hl2 => kk H locs la2 hP hD hX (lv_sub hl2 ks hk))
theorem z_astore_n (C : zC p s m args c cc nL own Ts D cI cO) {k : Fin 4} {i : Nat} {x : Nat} (lv : List (Nat × Value)) (hdg : decode cc pc = .ok (.astore_n k, 1)) (hi : (k : Nat) = i) (hn : i < nL) (ks : List Nat) (hk : lv_pick ((i, Value.ref x) :: ls.filter (fun q => !(q.1 == i) && !(q.1 + 1 == i && q.2.category == 2))) ks = lv)
    (kk : zG p l e R s m args below meth c D A X nL cells slots Q (pc + 1) lv st ws) : zG p l e R s m args below meth c D A X nL cells slots Q pc ls (.ref x :: st) ws := fun H locs la hP hD hX hl => lv_astore_n C.1 C.2.1 hdg hi hl hn rfl (fun la2 hl2 => kk H locs la2 hP hD hX (lv_sub hl2 ks hk))
theorem z_astore (C : zC p s m args c cc nL own Ts D cI cO) {i : Nat} {x : Nat} (lv : List (Nat × Value)) (hdg : decode cc pc = .ok (.astore i, 2)) (hn : i < nL) (ks : List Nat) (hk : lv_pick ((i, Value.ref x) :: ls.filter (fun q => !(q.1 == i) && !(q.1 + 1 == i && q.2.category == 2))) ks = lv)
    (kk : zG p l e R s m args below meth c D A X nL cells slots Q (pc + 2) lv st ws) : zG p l e R s m args below meth c D A X nL cells slots Q pc ls (.ref x :: st) ws := fun H locs la hP hD hX hl => lv_astore C.1 C.2.1 hdg hl hn rfl (fun la2 hl2 => kk H locs la2 hP hD hX (lv_sub hl2 ks hk))
theorem z_iinc (C : zC p s m args c cc nL own Ts D cI cO) {i : Nat} {n : Int} {x v : Int32} (lv : List (Nat × Value)) (hdg : decode cc pc = .ok (.iinc i n, 3)) (k : Nat) (hj : ls[k]? = some (i, .int x)) (hv : x + Int32.ofInt n = v) (hn : i < nL) (ks : List Nat) (hk : lv_pick ((i, Value.int v) :: ls.filter (fun q => !(q.1 == i) && !(q.1 + 1 == i && q.2.category == 2))) ks = lv)
    (kk : zG p l e R s m args below meth c D A X nL cells slots Q (pc + 3) lv st ws) : zG p l e R s m args below meth c D A X nL cells slots Q pc ls st ws := fun H locs la hP hD hX hl => lv_iinc C.1 C.2.1 hdg hl hj hv hn rfl (fun la2 hl2 => kk H locs la2 hP hD hX (lv_sub hl2 ks hk))
theorem z_iadd (C : zC p s m args c cc nL own Ts D cI cO) {x y : Int32} (hdg : decode cc pc = .ok (.iadd, 1))
    (kk : zG p l e R s m args below meth c D A X nL cells slots Q (pc + 1) ls (.int (x + y) :: st) ws) : zG p l e R s m args below meth c D A X nL cells slots Q pc ls (.int y :: .int x :: st) ws := fun H locs la hP hD hX hl => lv_iadd C.1 C.2.1 hdg (kk H locs la hP hD hX hl)
theorem z_isub (C : zC p s m args c cc nL own Ts D cI cO) {x y : Int32} (hdg : decode cc pc = .ok (.isub, 1))
    (kk : zG p l e R s m args below meth c D A X nL cells slots Q (pc + 1) ls (.int (x - y) :: st) ws) : zG p l e R s m args below meth c D A X nL cells slots Q pc ls (.int y :: .int x :: st) ws := fun H locs la hP hD hX hl => lv_isub C.1 C.2.1 hdg (kk H locs la hP hD hX hl)
theorem z_imul (C : zC p s m args c cc nL own Ts D cI cO) {x y : Int32} (hdg : decode cc pc = .ok (.imul, 1))
    (kk : zG p l e R s m args below meth c D A X nL cells slots Q (pc + 1) ls (.int (x * y) :: st) ws) : zG p l e R s m args below meth c D A X nL cells slots Q pc ls (.int y :: .int x :: st) ws := fun H locs la hP hD hX hl => lv_imul C.1 C.2.1 hdg (kk H locs la hP hD hX hl)
theorem z_iand (C : zC p s m args c cc nL own Ts D cI cO) {x y : Int32} (hdg : decode cc pc = .ok (.iand, 1))
    (kk : zG p l e R s m args below meth c D A X nL cells slots Q (pc + 1) ls (.int (x &&& y) :: st) ws) : zG p l e R s m args below meth c D A X nL cells slots Q pc ls (.int y :: .int x :: st) ws := fun H locs la hP hD hX hl => lv_iand C.1 C.2.1 hdg (kk H locs la hP hD hX hl)
theorem z_ior (C : zC p s m args c cc nL own Ts D cI cO) {x y : Int32} (hdg : decode cc pc = .ok (.ior, 1))
    (kk : zG p l e R s m args below meth c D A X nL cells slots Q (pc + 1) ls (.int (x ||| y) :: st) ws) : zG p l e R s m args below meth c D A X nL cells slots Q pc ls (.int y :: .int x :: st) ws := fun H locs la hP hD hX hl => lv_ior C.1 C.2.1 hdg (kk H locs la hP hD hX hl)
theorem z_ixor (C : zC p s m args c cc nL own Ts D cI cO) {x y : Int32} (hdg : decode cc pc = .ok (.ixor, 1))
    (kk : zG p l e R s m args below meth c D A X nL cells slots Q (pc + 1) ls (.int (x ^^^ y) :: st) ws) : zG p l e R s m args below meth c D A X nL cells slots Q pc ls (.int y :: .int x :: st) ws := fun H locs la hP hD hX hl => lv_ixor C.1 C.2.1 hdg (kk H locs la hP hD hX hl)
theorem z_ishl (C : zC p s m args c cc nL own Ts D cI cO) {x y : Int32} (hdg : decode cc pc = .ok (.ishl, 1))
    (kk : zG p l e R s m args below meth c D A X nL cells slots Q (pc + 1) ls (.int (x <<< (y &&& 31)) :: st) ws) : zG p l e R s m args below meth c D A X nL cells slots Q pc ls (.int y :: .int x :: st) ws := fun H locs la hP hD hX hl => lv_ishl C.1 C.2.1 hdg (kk H locs la hP hD hX hl)
theorem z_ishr (C : zC p s m args c cc nL own Ts D cI cO) {x y : Int32} (hdg : decode cc pc = .ok (.ishr, 1))
    (kk : zG p l e R s m args below meth c D A X nL cells slots Q (pc + 1) ls (.int (x >>> (y &&& 31)) :: st) ws) : zG p l e R s m args below meth c D A X nL cells slots Q pc ls (.int y :: .int x :: st) ws := fun H locs la hP hD hX hl => lv_ishr C.1 C.2.1 hdg (kk H locs la hP hD hX hl)
theorem z_idiv (C : zC p s m args c cc nL own Ts D cI cO) {x y : Int32} (hdg : decode cc pc = .ok (.idiv, 1)) (hne : ¬ y = 0)
    (kk : zG p l e R s m args below meth c D A X nL cells slots Q (pc + 1) ls (.int (x / y) :: st) ws) : zG p l e R s m args below meth c D A X nL cells slots Q pc ls (.int y :: .int x :: st) ws := fun H locs la hP hD hX hl => lv_idiv C.1 C.2.1 hdg hne (kk H locs la hP hD hX hl)
theorem z_irem (C : zC p s m args c cc nL own Ts D cI cO) {x y : Int32} (hdg : decode cc pc = .ok (.irem, 1)) (hne : ¬ y = 0)
    (kk : zG p l e R s m args below meth c D A X nL cells slots Q (pc + 1) ls (.int (x - x / y * y) :: st) ws) : zG p l e R s m args below meth c D A X nL cells slots Q pc ls (.int y :: .int x :: st) ws := fun H locs la hP hD hX hl => lv_irem C.1 C.2.1 hdg hne (kk H locs la hP hD hX hl)
theorem z_ladd (C : zC p s m args c cc nL own Ts D cI cO) {x y : Int64} (hdg : decode cc pc = .ok (.ladd, 1))
    (kk : zG p l e R s m args below meth c D A X nL cells slots Q (pc + 1) ls (.long (x + y) :: st) ws) : zG p l e R s m args below meth c D A X nL cells slots Q pc ls (.long y :: .long x :: st) ws := fun H locs la hP hD hX hl => lv_ladd C.1 C.2.1 hdg (kk H locs la hP hD hX hl)
theorem z_lsub (C : zC p s m args c cc nL own Ts D cI cO) {x y : Int64} (hdg : decode cc pc = .ok (.lsub, 1))
    (kk : zG p l e R s m args below meth c D A X nL cells slots Q (pc + 1) ls (.long (x - y) :: st) ws) : zG p l e R s m args below meth c D A X nL cells slots Q pc ls (.long y :: .long x :: st) ws := fun H locs la hP hD hX hl => lv_lsub C.1 C.2.1 hdg (kk H locs la hP hD hX hl)
theorem z_lmul (C : zC p s m args c cc nL own Ts D cI cO) {x y : Int64} (hdg : decode cc pc = .ok (.lmul, 1))
    (kk : zG p l e R s m args below meth c D A X nL cells slots Q (pc + 1) ls (.long (x * y) :: st) ws) : zG p l e R s m args below meth c D A X nL cells slots Q pc ls (.long y :: .long x :: st) ws := fun H locs la hP hD hX hl => lv_lmul C.1 C.2.1 hdg (kk H locs la hP hD hX hl)
theorem z_ldiv (C : zC p s m args c cc nL own Ts D cI cO) {x y : Int64} (hdg : decode cc pc = .ok (.ldiv, 1)) (hne : ¬ y = 0)
    (kk : zG p l e R s m args below meth c D A X nL cells slots Q (pc + 1) ls (.long (x / y) :: st) ws) : zG p l e R s m args below meth c D A X nL cells slots Q pc ls (.long y :: .long x :: st) ws := fun H locs la hP hD hX hl => lv_ldiv C.1 C.2.1 hdg hne (kk H locs la hP hD hX hl)
theorem z_lrem (C : zC p s m args c cc nL own Ts D cI cO) {x y : Int64} (hdg : decode cc pc = .ok (.lrem, 1)) (hne : ¬ y = 0)
    (kk : zG p l e R s m args below meth c D A X nL cells slots Q (pc + 1) ls (.long (x - x / y * y) :: st) ws) : zG p l e R s m args below meth c D A X nL cells slots Q pc ls (.long y :: .long x :: st) ws := fun H locs la hP hD hX hl => lv_lrem C.1 C.2.1 hdg hne (kk H locs la hP hD hX hl)
theorem z_lcmp (C : zC p s m args c cc nL own Ts D cI cO) {x y : Int64} (hdg : decode cc pc = .ok (.lcmp, 1))
    (kk : zG p l e R s m args below meth c D A X nL cells slots Q (pc + 1) ls (.int (lg_cmp x y) :: st) ws) : zG p l e R s m args below meth c D A X nL cells slots Q pc ls (.long y :: .long x :: st) ws := fun H locs la hP hD hX hl => W.lcmp C.1 C.2.1 hdg (kk H locs la hP hD hX hl)
theorem z_i2l (C : zC p s m args c cc nL own Ts D cI cO) {x : Int32} (hdg : decode cc pc = .ok (.i2l, 1))
    (kk : zG p l e R s m args below meth c D A X nL cells slots Q (pc + 1) ls (.long x.toInt64 :: st) ws) : zG p l e R s m args below meth c D A X nL cells slots Q pc ls (.int x :: st) ws := fun H locs la hP hD hX hl => lv_i2l C.1 C.2.1 hdg rfl (kk H locs la hP hD hX hl)
theorem z_i2b (C : zC p s m args c cc nL own Ts D cI cO) {x : Int32} (hdg : decode cc pc = .ok (.i2b, 1))
    (kk : zG p l e R s m args below meth c D A X nL cells slots Q (pc + 1) ls (.int x.toInt8.toInt32 :: st) ws) : zG p l e R s m args below meth c D A X nL cells slots Q pc ls (.int x :: st) ws := fun H locs la hP hD hX hl => lv_i2b C.1 C.2.1 hdg rfl (kk H locs la hP hD hX hl)
theorem z_i2s (C : zC p s m args c cc nL own Ts D cI cO) {x : Int32} (hdg : decode cc pc = .ok (.i2s, 1))
    (kk : zG p l e R s m args below meth c D A X nL cells slots Q (pc + 1) ls (.int x.toInt16.toInt32 :: st) ws) : zG p l e R s m args below meth c D A X nL cells slots Q pc ls (.int x :: st) ws := fun H locs la hP hD hX hl => lv_i2s C.1 C.2.1 hdg rfl (kk H locs la hP hD hX hl)
theorem z_dup (C : zC p s m args c cc nL own Ts D cI cO) {x : Value} (hdg : decode cc pc = .ok (.dup, 1)) (hc : x.category = 1)
    (kk : zG p l e R s m args below meth c D A X nL cells slots Q (pc + 1) ls (x :: x :: st) ws) : zG p l e R s m args below meth c D A X nL cells slots Q pc ls (x :: st) ws := fun H locs la hP hD hX hl => lv_dup C.1 C.2.1 hdg hc (kk H locs la hP hD hX hl)
theorem z_pop (C : zC p s m args c cc nL own Ts D cI cO) {x : Value} (hdg : decode cc pc = .ok (.pop, 1)) (hc : x.category = 1)
    (kk : zG p l e R s m args below meth c D A X nL cells slots Q (pc + 1) ls st ws) : zG p l e R s m args below meth c D A X nL cells slots Q pc ls (x :: st) ws := fun H locs la hP hD hX hl => lv_pop C.1 C.2.1 hdg hc (kk H locs la hP hD hX hl)
theorem z_dup2 (C : zC p s m args c cc nL own Ts D cI cO) {x y : Value} (hdg : decode cc pc = .ok (.dup2, 1)) (hc : x.category = 1) (hc2 : y.category = 1)
    (kk : zG p l e R s m args below meth c D A X nL cells slots Q (pc + 1) ls (x :: y :: x :: y :: st) ws) : zG p l e R s m args below meth c D A X nL cells slots Q pc ls (x :: y :: st) ws := fun H locs la hP hD hX hl => lv_dup2_11 C.1 C.2.1 hdg hc hc2 (kk H locs la hP hD hX hl)
theorem z_if_eq (C : zC p s m args c cc nL own Ts D cI cO) {x : Int32} {off : Int} {tgt : Nat} (hdg : decode cc pc = .ok (.ifCond .eq off, 3)) (ht : (pc : Int) + off = (tgt : Int))
    (kt : x = 0 → zG p l e R s m args below meth c D A X nL cells slots Q tgt ls st ws) (kf : ¬ x = 0 → zG p l e R s m args below meth c D A X nL cells slots Q (pc + 3) ls st ws) : zG p l e R s m args below meth c D A X nL cells slots Q pc ls (.int x :: st) ws := fun H locs la hP hD hX hl => lv_if_eq C.1 C.2.1 hdg ht (fun h => kt h H locs la hP hD hX hl) (fun h => kf h H locs la hP hD hX hl)
theorem z_if_ne (C : zC p s m args c cc nL own Ts D cI cO) {x : Int32} {off : Int} {tgt : Nat} (hdg : decode cc pc = .ok (.ifCond .ne off, 3)) (ht : (pc : Int) + off = (tgt : Int))
    (kt : ¬ x = 0 → zG p l e R s m args below meth c D A X nL cells slots Q tgt ls st ws) (kf : x = 0 → zG p l e R s m args below meth c D A X nL cells slots Q (pc + 3) ls st ws) : zG p l e R s m args below meth c D A X nL cells slots Q pc ls (.int x :: st) ws := fun H locs la hP hD hX hl => lv_if_ne C.1 C.2.1 hdg ht (fun h => kt h H locs la hP hD hX hl) (fun h => kf h H locs la hP hD hX hl)
theorem z_if_lt (C : zC p s m args c cc nL own Ts D cI cO) {x : Int32} {off : Int} {tgt : Nat} (hdg : decode cc pc = .ok (.ifCond .lt off, 3)) (ht : (pc : Int) + off = (tgt : Int))
    (kt : x < 0 → zG p l e R s m args below meth c D A X nL cells slots Q tgt ls st ws) (kf : ¬ x < 0 → zG p l e R s m args below meth c D A X nL cells slots Q (pc + 3) ls st ws) : zG p l e R s m args below meth c D A X nL cells slots Q pc ls (.int x :: st) ws := fun H locs la hP hD hX hl => lv_if_lt C.1 C.2.1 hdg ht (fun h => kt h H locs la hP hD hX hl) (fun h => kf h H locs la hP hD hX hl)
theorem z_if_ge (C : zC p s m args c cc nL own Ts D cI cO) {x : Int32} {off : Int} {tgt : Nat} (hdg : decode cc pc = .ok (.ifCond .ge off, 3)) (ht : (pc : Int) + off = (tgt : Int))
    (kt : 0 ≤ x → zG p l e R s m args below meth c D A X nL cells slots Q tgt ls st ws) (kf : ¬ 0 ≤ x → zG p l e R s m args below meth c D A X nL cells slots Q (pc + 3) ls st ws) : zG p l e R s m args below meth c D A X nL cells slots Q pc ls (.int x :: st) ws := fun H locs la hP hD hX hl => lv_if_ge C.1 C.2.1 hdg ht (fun h => kt h H locs la hP hD hX hl) (fun h => kf h H locs la hP hD hX hl)
theorem z_if_gt (C : zC p s m args c cc nL own Ts D cI cO) {x : Int32} {off : Int} {tgt : Nat} (hdg : decode cc pc = .ok (.ifCond .gt off, 3)) (ht : (pc : Int) + off = (tgt : Int))
    (kt : 0 < x → zG p l e R s m args below meth c D A X nL cells slots Q tgt ls st ws) (kf : ¬ 0 < x → zG p l e R s m args below meth c D A X nL cells slots Q (pc + 3) ls st ws) : zG p l e R s m args below meth c D A X nL cells slots Q pc ls (.int x :: st) ws := fun H locs la hP hD hX hl => lv_if_gt C.1 C.2.1 hdg ht (fun h => kt h H locs la hP hD hX hl) (fun h => kf h H locs la hP hD hX hl)
theorem z_if_le (C : zC p s m args c cc nL own Ts D cI cO) {x : Int32} {off : Int} {tgt : Nat} (hdg : decode cc pc = .ok (.ifCond .le off, 3)) (ht : (pc : Int) + off = (tgt : Int))
    (kt : x ≤ 0 → zG p l e R s m args below meth c D A X nL cells slots Q tgt ls st ws) (kf : ¬ x ≤ 0 → zG p l e R s m args below meth c D A X nL cells slots Q (pc + 3) ls st ws) : zG p l e R s m args below meth c D A X nL cells slots Q pc ls (.int x :: st) ws := fun H locs la hP hD hX hl => lv_if_le C.1 C.2.1 hdg ht (fun h => kt h H locs la hP hD hX hl) (fun h => kf h H locs la hP hD hX hl)
theorem z_icmp_eq (C : zC p s m args c cc nL own Ts D cI cO) {x y : Int32} {off : Int} {tgt : Nat} (hdg : decode cc pc = .ok (.if_icmp .eq off, 3)) (ht : (pc : Int) + off = (tgt : Int))
    (kt : x = y → zG p l e R s m args below meth c D A X nL cells slots Q tgt ls st ws) (kf : ¬ x = y → zG p l e R s m args below meth c D A X nL cells slots Q (pc + 3) ls st ws) : zG p l e R s m args below meth c D A X nL cells slots Q pc ls (.int y :: .int x :: st) ws := fun H locs la hP hD hX hl => lv_icmp_eq C.1 C.2.1 hdg ht (fun h => kt h H locs la hP hD hX hl) (fun h => kf h H locs la hP hD hX hl)
theorem z_icmp_ne (C : zC p s m args c cc nL own Ts D cI cO) {x y : Int32} {off : Int} {tgt : Nat} (hdg : decode cc pc = .ok (.if_icmp .ne off, 3)) (ht : (pc : Int) + off = (tgt : Int))
    (kt : ¬ x = y → zG p l e R s m args below meth c D A X nL cells slots Q tgt ls st ws) (kf : x = y → zG p l e R s m args below meth c D A X nL cells slots Q (pc + 3) ls st ws) : zG p l e R s m args below meth c D A X nL cells slots Q pc ls (.int y :: .int x :: st) ws := fun H locs la hP hD hX hl => lv_icmp_ne C.1 C.2.1 hdg ht (fun h => kt h H locs la hP hD hX hl) (fun h => kf h H locs la hP hD hX hl)
theorem z_icmp_lt (C : zC p s m args c cc nL own Ts D cI cO) {x y : Int32} {off : Int} {tgt : Nat} (hdg : decode cc pc = .ok (.if_icmp .lt off, 3)) (ht : (pc : Int) + off = (tgt : Int))
    (kt : x < y → zG p l e R s m args below meth c D A X nL cells slots Q tgt ls st ws) (kf : ¬ x < y → zG p l e R s m args below meth c D A X nL cells slots Q (pc + 3) ls st ws) : zG p l e R s m args below meth c D A X nL cells slots Q pc ls (.int y :: .int x :: st) ws := fun H locs la hP hD hX hl => lv_icmp_lt C.1 C.2.1 hdg ht (fun h => kt h H locs la hP hD hX hl) (fun h => kf h H locs la hP hD hX hl)
theorem z_icmp_ge (C : zC p s m args c cc nL own Ts D cI cO) {x y : Int32} {off : Int} {tgt : Nat} (hdg : decode cc pc = .ok (.if_icmp .ge off, 3)) (ht : (pc : Int) + off = (tgt : Int))
    (kt : y ≤ x → zG p l e R s m args below meth c D A X nL cells slots Q tgt ls st ws) (kf : ¬ y ≤ x → zG p l e R s m args below meth c D A X nL cells slots Q (pc + 3) ls st ws) : zG p l e R s m args below meth c D A X nL cells slots Q pc ls (.int y :: .int x :: st) ws := fun H locs la hP hD hX hl => lv_icmp_ge C.1 C.2.1 hdg ht (fun h => kt h H locs la hP hD hX hl) (fun h => kf h H locs la hP hD hX hl)
theorem z_icmp_gt (C : zC p s m args c cc nL own Ts D cI cO) {x y : Int32} {off : Int} {tgt : Nat} (hdg : decode cc pc = .ok (.if_icmp .gt off, 3)) (ht : (pc : Int) + off = (tgt : Int))
    (kt : y < x → zG p l e R s m args below meth c D A X nL cells slots Q tgt ls st ws) (kf : ¬ y < x → zG p l e R s m args below meth c D A X nL cells slots Q (pc + 3) ls st ws) : zG p l e R s m args below meth c D A X nL cells slots Q pc ls (.int y :: .int x :: st) ws := fun H locs la hP hD hX hl => lv_icmp_gt C.1 C.2.1 hdg ht (fun h => kt h H locs la hP hD hX hl) (fun h => kf h H locs la hP hD hX hl)
theorem z_icmp_le (C : zC p s m args c cc nL own Ts D cI cO) {x y : Int32} {off : Int} {tgt : Nat} (hdg : decode cc pc = .ok (.if_icmp .le off, 3)) (ht : (pc : Int) + off = (tgt : Int))
    (kt : x ≤ y → zG p l e R s m args below meth c D A X nL cells slots Q tgt ls st ws) (kf : ¬ x ≤ y → zG p l e R s m args below meth c D A X nL cells slots Q (pc + 3) ls st ws) : zG p l e R s m args below meth c D A X nL cells slots Q pc ls (.int y :: .int x :: st) ws := fun H locs la hP hD hX hl => lv_icmp_le C.1 C.2.1 hdg ht (fun h => kt h H locs la hP hD hX hl) (fun h => kf h H locs la hP hD hX hl)
theorem z_goto (C : zC p s m args c cc nL own Ts D cI cO) {off : Int} {tgt : Nat} (hdg : decode cc pc = .ok (.goto off, 3)) (ht : (pc : Int) + off = (tgt : Int))
    (kk : zG p l e R s m args below meth c D A X nL cells slots Q tgt ls st ws) : zG p l e R s m args below meth c D A X nL cells slots Q pc ls st ws := fun H locs la hP hD hX hl => lv_goto C.1 C.2.1 hdg ht (kk H locs la hP hD hX hl)
theorem z_tabOut (C : zC p s m args c cc nL own Ts D cI cO) {dflt lo hi : Int} {offs : Array Int} {len : Nat} {x : Int32} {tgt : Nat} (hdg : decode cc pc = .ok (.tableswitch dflt lo hi offs, len)) (h : x.toInt < lo ∨ hi < x.toInt) (ht : (pc : Int) + dflt = (tgt : Int))
    (kk : zG p l e R s m args below meth c D A X nL cells slots Q tgt ls st ws) : zG p l e R s m args below meth c D A X nL cells slots Q pc ls (.int x :: st) ws := fun H locs la hP hD hX hl => lv_tableOut C.1 C.2.1 hdg h ht (kk H locs la hP hD hX hl)
theorem z_tabIn (C : zC p s m args c cc nL own Ts D cI cO) {dflt lo hi : Int} {offs : Array Int} {len : Nat} {x : Int32} {off : Int} {tgt : Nat} (hdg : decode cc pc = .ok (.tableswitch dflt lo hi offs, len)) (h1 : ¬ x.toInt < lo) (h2 : ¬ hi < x.toInt) (ho : offs[(x.toInt - lo).toNat]? = some off) (ht : (pc : Int) + off = (tgt : Int))
    (kk : zG p l e R s m args below meth c D A X nL cells slots Q tgt ls st ws) : zG p l e R s m args below meth c D A X nL cells slots Q pc ls (.int x :: st) ws := fun H locs la hP hD hX hl => lv_tableIn C.1 C.2.1 hdg h1 h2 ho ht (kk H locs la hP hD hX hl)
theorem z_lookup (C : zC p s m args c cc nL own Ts D cI cO) {dflt : Int} {ps : Array (Int × Int)} {len : Nat} {x : Int32} {off : Int} {tgt : Nat} (hdg : decode cc pc = .ok (.lookupswitch dflt ps, len)) (hp : (ps.toList.zip (ps.toList.drop 1)).all (fun (a, next) => a.1 < next.1) = true) (ho : Op.lookupswitch.offset ps.toList dflt x.toInt = off) (ht : (pc : Int) + off = (tgt : Int))
    (kk : zG p l e R s m args below meth c D A X nL cells slots Q tgt ls st ws) : zG p l e R s m args below meth c D A X nL cells slots Q pc ls (.int x :: st) ws := fun H locs la hP hD hX hl => lv_lookup C.1 C.2.1 hdg hp ho ht (kk H locs la hP hD hX hl)
theorem z_ls (lv : List (Nat × Value)) (ks : List Nat) (hk : lv_pick ls ks = lv) (kk : zG p l e R s m args below meth c D A X nL cells slots Q pc lv st ws) : zG p l e R s m args below meth c D A X nL cells slots Q pc ls st ws := fun H locs la hP hD hX hl => kk H locs la hP hD hX (lv_sub hl ks hk)
theorem z_topi {x : Int32} (kk : ∀ y : Int32, y = x → zG p l e R s m args below meth c D A X nL cells slots Q pc ls (.int y :: st) ws) : zG p l e R s m args below meth c D A X nL cells slots Q pc ls (.int x :: st) ws := kk x rfl
theorem z_get (C : zC p s m args c cc nL own Ts D cI cO) {ref Cn : String} {T : u_T} {N ci index : Nat} {a : Nat} (hin : ∀ w ∈ u_ws Cn T N, w ∈ Ts) (q0 : Nat) {fs : List Value} (he : ws[q0]? = some (a, .inr (ci, fs))) (hc : vwCl[ci]? = some (Cn, T, N)) (k : Nat) (hk : k < N) (hlink : Cond.fieldLink own index ref (T k).2.1 (T k).2.2.1 ∈ Ts) (href : (T k).1 = ref) {v : Value} (hv : fs[k]? = some v) (hdg : decode cc pc = .ok (.getfield index, 3))
    (kk : zG p l e R s m args below meth c D A X nL cells slots Q (pc + 3) ls (v :: st) ws) : zG p l e R s m args below meth c D A X nL cells slots Q pc ls (.ref a :: st) ws := fun H locs la hP hD hX hl => va_get C.1 C.2.1 C.2.2.2.2.1 hin C.2.2.2.1 C.2.2.2.2.2.1 hP q0 he hc k hk (C.2.2.2.2.1 _ hlink) (fun x h => by rw [← href]; exact h) hv hdg (kk H locs la hP hD hX hl)
theorem z_put (C : zC p s m args c cc nL own Ts D cI cO) {ref Cn : String} {T : u_T} {N ci index : Nat} {a : Nat} {H0 : Heap} (ws1 : va_W) (hin : ∀ w ∈ u_ws Cn T N, w ∈ Ts) (ty0 : Nat → FieldType) (hty : ∀ k, k < N → parseFieldDescriptor (T k).2.2.1 = some (ty0 k)) (hnm : ∀ a, a < N → ∀ b, b < N → a ≠ b → (T a).2.1 ≠ (T b).2.1) (q0 : Nat) {fs : List Value} (he : ws[q0]? = some (a, .inr (ci, fs))) (hc : vwCl[ci]? = some (Cn, T, N)) (k : Nat) (hk : k < N) (hlink : Cond.fieldLink own index ref (T k).2.1 (T k).2.2.1 ∈ Ts) (href : (T k).1 = ref) (hfin : (T k).2.2.2 = false) {ty : FieldType} {v : Value} (hd : parseFieldDescriptor (T k).2.2.1 = some ty) (hn : narrow ty v = v) (hfit : fits ty v = true) (hl0 : k < fs.length) (hdg : decode cc pc = .ok (.putfield index, 3)) (hw : ws.set q0 (a, .inr (ci, fs.set k v)) = ws1)
    (kk : zG p l e R s m args below meth c D A (zXw A H0) nL cells slots Q (pc + 3) ls st ws1) : zG p l e R s m args below meth c D A (zXw A H0) nL cells slots Q pc ls (v :: .ref a :: st) ws := by
  subst hw
  exact fun H locs la hP hD hX hl => va_put C.1 C.2.1 C.2.2.2.2.1 hin ty0 hty hnm C.2.2.2.1 C.2.2.2.2.2.1 hP hD hX q0 he hc k hk (C.2.2.2.2.1 _ hlink) (fun x h => by rw [← href]; exact h) hfin hd hn hfit hl0 hdg (fun H1 locs1 hP1 hD1 hS1 => kk H1 locs1 la hP1 hD1 hS1 hl)
theorem z_ald (C : zC p s m args c cc nL own Ts D cI cO) {a n : Nat} {f : Nat → Int32} (q0 : Nat) (ha : ws[q0]? = some (a, .inl (cI, n, .inl f))) {i : Int32} (hin : vp_in i n) (hdg : decode cc pc = .ok (.iaload, 1))
    (kk : zG p l e R s m args below meth c D A X nL cells slots Q (pc + 1) ls (.int (f i.toNatClampNeg) :: st) ws) : zG p l e R s m args below meth c D A X nL cells slots Q pc ls (.int i :: .ref a :: st) ws := fun H locs la hP hD hX hl => va_iald C.1 C.2.1 C.2.2.2.2.2.1 hP q0 0 ha rfl hin hdg (kk H locs la hP hD hX hl)
theorem z_ast (C : zC p s m args c cc nL own Ts D cI cO) {a n : Nat} {f : Nat → Int32} {H0 : Heap} (ws1 : va_W) (q0 : Nat) (ha : ws[q0]? = some (a, .inl (cI, n, .inl f))) {i x : Int32} (hin : vp_in i n) (hdg : decode cc pc = .ok (.iastore, 1)) (hw : ws.set q0 (a, .inl (cI, n, .inl (upd f i.toNatClampNeg x))) = ws1)
    (kk : zG p l e R s m args below meth c D A (zXw A H0) nL cells slots Q (pc + 1) ls st ws1) : zG p l e R s m args below meth c D A (zXw A H0) nL cells slots Q pc ls (.int x :: .int i :: .ref a :: st) ws := by
  subst hw
  exact fun H locs la hP hD hX hl => va_iast C.1 C.2.1 C.2.2.2.2.2.1 hP hD hX q0 0 ha rfl hin hdg (fun H1 locs1 hP1 hD1 hS1 => kk H1 locs1 la hP1 hD1 hS1 hl)
theorem z_aldq (C : zC p s m args c cc nL own Ts D cI cO) {a n b : Nat} {f : Nat → Option Nat} (q0 : Nat) (ha : ws[q0]? = some (a, .inl (cO, n, .inr (.inr (.inr (.inr f)))))) {i : Int32} (hin : vp_in i n) (hb : f i.toNatClampNeg = some b) (hdg : decode cc pc = .ok (.aaload, 1))
    (kk : zG p l e R s m args below meth c D A X nL cells slots Q (pc + 1) ls (.ref b :: st) ws) : zG p l e R s m args below meth c D A X nL cells slots Q pc ls (.int i :: .ref a :: st) ws := fun H locs la hP hD hX hl => va_aldq C.1 C.2.1 C.2.2.2.2.2.1 hP q0 1 ha rfl hin hdg (by rw [hb]; exact kk H locs la hP hD hX hl)
theorem z_acopy (C : zC p s m args c cc nL own Ts D cI cO) {index a a0 n0 n1 : Nat} {f g : Nat → Int32} {H0 : Heap} (ws1 : va_W) (hlink : Cond.methodLink own index arraycopyName ∈ Ts) (hnat : Cond.native arraycopyName ∈ Ts) (hstat : Cond.static arraycopyName ∈ Ts) (hini : Cond.initialized "java/lang/System" ∈ Ts) (q0 q1 : Nat) (ha0 : ws[q0]? = some (a0, .inl (cI, n0, .inl f))) (ha1 : ws[q1]? = some (a, .inl (cI, n1, .inl g))) {sp dp n : Int32} (h1 : ¬ sp < 0) (h2 : ¬ dp < 0) (h3 : ¬ n < 0) (h4 : sp.toNatClampNeg + n.toNatClampNeg ≤ n0) (h5 : dp.toNatClampNeg + n.toNatClampNeg ≤ n1) (hfr : 1 ≤ R.frames) (hlo : (st.map fun v => v.category).sum + (nativeFrameWords "java/lang/System" "arraycopy" 5 + 11) ≤ R.locals) (hdg : decode cc pc = .ok (.invokestatic index, 3)) (hw : ws.set q1 (a, .inl (cI, n1, .inl (va_cpy f g sp.toNatClampNeg dp.toNatClampNeg n.toNatClampNeg))) = ws1)
    (kk : zG p l e R s m args below meth c D A (zXw A H0) nL cells slots Q (pc + 3) ls st ws1) : zG p l e R s m args below meth c D A (zXw A H0) nL cells slots Q pc ls (.int n :: .int dp :: .ref a :: .int sp :: .ref a0 :: st) ws := by
  subst hw
  exact fun H locs la hP hD hX hl => va_copyi C.1 C.2.1 (C.2.2.1.trans hl.1.symm) C.2.2.2.1 (C.2.2.2.2.1 _ hlink) (C.2.2.2.2.1 _ hnat) (C.2.2.2.2.1 _ hstat) (C.2.2.2.2.1 _ hini) C.2.2.2.2.2.1 hP hD hX q0 q1 0 0 ha0 ha1 rfl rfl rfl h1 h2 h3 h4 h5 (fun _ _ => rfl) hfr hlo hdg (fun H1 locs1 hP1 hD1 hS1 => kk H1 locs1 la hP1 hD1 hS1 hl)
theorem z_min (C : zC p s m args c cc nL own Ts D cI cO) {index : Nat} (hlink : Cond.methodLink own index Lib.Math.min.name ∈ Ts) (hstat : Cond.static Lib.Math.min.name ∈ Ts) (hini : Cond.initialized "java/lang/Math" ∈ Ts) (hcode : Cond.code Lib.Math.min.name Lib.Math.min.code 2 (some .int) ∈ Ts) (hfr : 1 ≤ R.frames) (hlo : (st.map fun v => v.category).sum + 13 ≤ R.locals) (hc : cells ≤ R.cells) (hs : slots ≤ R.slots) {x y : Int32} (hdg : decode cc pc = .ok (.invokestatic index, 3))
    (kk : zG p l e R s m args below meth c D A X nL cells slots Q (pc + 3) ls (.int (if y < x then y else x) :: st) ws) : zG p l e R s m args below meth c D A X nL cells slots Q pc ls (.int y :: .int x :: st) ws := fun H locs la hP hD hX hl => va_mmin C.1 C.2.1 (C.2.2.1.trans hl.1.symm) C.2.2.2.1 (C.2.2.2.2.1 _ hlink) (C.2.2.2.2.1 _ hstat) (C.2.2.2.2.1 _ hini) (C.2.2.2.2.1 _ hcode) hfr hlo hc hs hdg (kk H locs la hP hD hX hl)
theorem z_max (C : zC p s m args c cc nL own Ts D cI cO) {index : Nat} (hlink : Cond.methodLink own index Lib.Math.max.name ∈ Ts) (hstat : Cond.static Lib.Math.max.name ∈ Ts) (hini : Cond.initialized "java/lang/Math" ∈ Ts) (hcode : Cond.code Lib.Math.max.name Lib.Math.max.code 2 (some .int) ∈ Ts) (hfr : 1 ≤ R.frames) (hlo : (st.map fun v => v.category).sum + 13 ≤ R.locals) (hc : cells ≤ R.cells) (hs : slots ≤ R.slots) {x y : Int32} (hdg : decode cc pc = .ok (.invokestatic index, 3))
    (kk : zG p l e R s m args below meth c D A X nL cells slots Q (pc + 3) ls (.int (if x < y then y else x) :: st) ws) : zG p l e R s m args below meth c D A X nL cells slots Q pc ls (.int y :: .int x :: st) ws := fun H locs la hP hD hX hl => va_mmax C.1 C.2.1 (C.2.2.1.trans hl.1.symm) C.2.2.2.1 (C.2.2.2.2.1 _ hlink) (C.2.2.2.2.1 _ hstat) (C.2.2.2.2.1 _ hini) (C.2.2.2.2.1 _ hcode) hfr hlo hc hs hdg (kk H locs la hP hD hX hl)
theorem z_iretR (C : zC p s m args c cc nL own Ts D cI cO) {v x : Int32} (hr : meth.sig.returnType = some .int) (hlk : meth.locks = false) (hv : x = v) (hdg : decode cc pc = .ok (.ireturn, 1))
     : zG p l e R s m args below meth c D A (zXr s) nL 0 0 (MQ below (zQr (some (.int v))) args s 0 0 (fun _ => False)) pc ls [.int x] ws := by
  subst hv
  intro H locs la hP hD hX hl
  obtain ⟨rfl, rfl⟩ := hX
  exact W.iret C.1 C.2.1 hr (fun t ht hW => ⟨rfl, ht⟩) (fun q h => by cases h) hdg
theorem z_iretW (C : zC p s m args c cc nL own Ts D cI cO) {v x : Int32} {w1 : va_W} (hr : meth.sig.returnType = some .int) (hlk : meth.locks = false) (hv : x = v) (hw : ws = w1) (hdg : decode cc pc = .ok (.ireturn, 1))
     : zG p l e R s m args below meth c D A (zXw A s.heap) nL 0 0 (MQ below (zQw D w1 A (some (.int v))) args s 0 0 A) pc ls [.int x] ws := by
  subst hv; subst hw
  intro H locs la hP hD hX hl
  exact W.iret C.1 C.2.1 hr (fun t ht hW => ⟨⟨rfl, by rw [ht]; exact hP⟩, va_S.F hX ht⟩) hX.2.2 hdg
theorem z_lretR (C : zC p s m args c cc nL own Ts D cI cO) {v x : Int64} (hr : meth.sig.returnType = some .long) (hlk : meth.locks = false) (hv : x = v) (hdg : decode cc pc = .ok (.lreturn, 1))
     : zG p l e R s m args below meth c D A (zXr s) nL 0 0 (MQ below (zQr (some (.long v))) args s 0 0 (fun _ => False)) pc ls [.long x] ws := by
  subst hv
  intro H locs la hP hD hX hl
  obtain ⟨rfl, rfl⟩ := hX
  exact W.lret C.1 C.2.1 hr (fun t ht hW => ⟨rfl, ht⟩) (fun q h => by cases h) hdg
theorem z_lretW (C : zC p s m args c cc nL own Ts D cI cO) {v x : Int64} {w1 : va_W} (hr : meth.sig.returnType = some .long) (hlk : meth.locks = false) (hv : x = v) (hw : ws = w1) (hdg : decode cc pc = .ok (.lreturn, 1))
     : zG p l e R s m args below meth c D A (zXw A s.heap) nL 0 0 (MQ below (zQw D w1 A (some (.long v))) args s 0 0 A) pc ls [.long x] ws := by
  subst hv; subst hw
  intro H locs la hP hD hX hl
  exact W.lret C.1 C.2.1 hr (fun t ht hW => ⟨⟨rfl, by rw [ht]; exact hP⟩, va_S.F hX ht⟩) hX.2.2 hdg
theorem z_zretR (C : zC p s m args c cc nL own Ts D cI cO) {ty : FieldType} {v x : Int32} (hr : meth.sig.returnType = some ty) (hlk : meth.locks = false) (hn : narrow ty (.int x) = .int x) (hv : x = v) (hdg : decode cc pc = .ok (.ireturn, 1))
     : zG p l e R s m args below meth c D A (zXr s) nL 0 0 (MQ below (zQr (some (.int v))) args s 0 0 (fun _ => False)) pc ls [.int x] ws := by
  subst hv
  intro H locs la hP hD hX hl
  obtain ⟨rfl, rfl⟩ := hX
  exact W.zret C.1 C.2.1 hr hn (fun t ht hW => ⟨rfl, ht⟩) (fun q h => by cases h) hdg
theorem z_zretW (C : zC p s m args c cc nL own Ts D cI cO) {ty : FieldType} {v x : Int32} {w1 : va_W} (hr : meth.sig.returnType = some ty) (hlk : meth.locks = false) (hn : narrow ty (.int x) = .int x) (hv : x = v) (hw : ws = w1) (hdg : decode cc pc = .ok (.ireturn, 1))
     : zG p l e R s m args below meth c D A (zXw A s.heap) nL 0 0 (MQ below (zQw D w1 A (some (.int v))) args s 0 0 A) pc ls [.int x] ws := by
  subst hv; subst hw
  intro H locs la hP hD hX hl
  exact W.zret C.1 C.2.1 hr hn (fun t ht hW => ⟨⟨rfl, by rw [ht]; exact hP⟩, va_S.F hX ht⟩) hX.2.2 hdg
theorem z_vretW (C : zC p s m args c cc nL own Ts D cI cO) {w1 : va_W} (hr : meth.sig.returnType = none) (hlk : meth.locks = false) (hw : ws = w1) (hdg : decode cc pc = .ok (.return_, 1))
     : zG p l e R s m args below meth c D A (zXw A s.heap) nL 0 0 (MQ below (zQw D w1 A none) args s 0 0 A) pc ls [] ws := by
  subst hw
  intro H locs la hP hD hX hl
  exact W.vret C.1 C.2.1 hr (fun t ht hW => ⟨⟨rfl, by rw [ht]; exact hP⟩, va_S.F hX ht⟩) hX.2.2 hdg
theorem z_runR {g : JFrame} {rest : List Value} {v : Option Value} {a : Array Value} {H : Heap} {locs : List Loc} (hr : va_Run p l e R s m args below meth c H locs cells slots 0 0 g rest (zQr v a) (fun _ => False)) (kk : W p l e R s m args below meth c H locs cells slots Q { g with pc := g.pc + 3, stack := v.toList ++ rest }) : W p l e R s m args below meth c H locs cells slots Q g := by
  intro T hT X
  obtain ⟨v', st₀, t, T', L, h0, X', hL, e1, e2, ⟨hv, hh⟩, st⟩ := hr T hT X
  cases hv
  obtain ⟨t2, a1, b1⟩ := kk T' (by rw [e1, hh, h0]) (Stand.forget X' (fun q h => (hL q h).elim))
  exact ⟨t2, st t2 a1, b1⟩
theorem z_runW {g : JFrame} {rest : List Value} {v : Option Value} {a : Array Value} {H H0 : Heap} {locs : List Loc} {A1 : Nat → Prop} {w1 : va_W} (hr : va_Run p l e R s m args below meth c H locs cells slots 0 0 g rest (zQw D w1 A1 v a) A1) (hS : va_S A H0 H locs) (hA : ∀ q, A1 q → A q)
    (kk : ∀ (H1 : Heap) (locs1 : List Loc), va_P D vwCl w1 H1 → (∀ q : Nat, q < H.size → ¬ A1 q → H1[q]? = H[q]?) → va_S A H0 H1 locs1 → W p l e R s m args below meth c H1 locs1 cells slots Q { g with pc := g.pc + 3, stack := v.toList ++ rest }) : W p l e R s m args below meth c H locs cells slots Q g := by
  intro T hT X
  obtain ⟨v', st₀, t, T', L, h0, X', hL, e1, e2, ⟨⟨hv, hp⟩, hz, hk⟩, st⟩ := hr T hT X
  cases hv
  rw [h0] at hz hk
  obtain ⟨t2, a1, b1⟩ := kk T'.heap (locs ++ L) (by rw [e1]; exact hp) (fun q h1 h2 => by rw [e1]; exact hk q h1 h2)
    ⟨Nat.le_trans hS.1 (by rw [e1]; exact hz), fun q h1 h2 => by rw [e1, hk q (Nat.lt_of_lt_of_le h1 hS.1) (fun z => h2 (hA q z))]; exact hS.2.1 q h1 h2, fun q hq => by
      rcases List.mem_append.mp hq with h | h
      · exact hS.2.2 q h
      · exact hA _ (hL q h)⟩ T' rfl X'
  exact ⟨t2, st t2 a1, b1⟩
theorem z_sub {H : Heap} {w0 : va_W} (is : List Nat) (hnd : va_nd is = true) (hC : is.map (fun i => ws[i]?) = w0.map some) (hP : va_P D vwCl ws H) (hD : va_D A ws) : va_P D vwCl w0 H ∧ va_D A w0 ∧ ∀ q, zA w0 q → A q := by
  have hD0 := hD.sub is hnd hC
  refine ⟨fun k q hq => ?_, hD0, fun q ⟨k, e, h⟩ => hD0.2 k _ h⟩
  have h1 : (is.map (fun i => ws[i]?))[k]? = some (some q) := by rw [hC, List.getElem?_map, hq]; rfl
  rw [List.getElem?_map] at h1
  cases hi : is[k]? with
  | none => rw [hi] at h1; cases h1
  | some i => rw [hi] at h1; exact hP i q (Option.some.inj h1)
theorem z_back {H H1 : Heap} {w0 w1 ws1 : va_W} (is : List Nat) (hnd : va_nd is = true) (hC : is.map (fun i => ws[i]?) = w0.map some) (hfst : w1.map Prod.fst = w0.map Prod.fst) (hput : zput ws is w1 = ws1) (hP : va_P D vwCl ws H) (hD : va_D A ws) (hP1 : va_P D vwCl w1 H1) (hk : ∀ q : Nat, q < H.size → ¬ zA w0 q → H1[q]? = H[q]?) : va_P D vwCl ws1 H1 ∧ va_D A ws1 := by
  subst hput
  have hlen : is.length = w0.length := by have := congrArg List.length hC; simpa using this
  have hlen1 : w1.length = w0.length := by have := congrArg List.length hfst; simpa using this
  refine ⟨fun k q hq => ?_, zD_fst hD (zput_fst is w1 ws ?_)⟩
  · rcases zput_at is w1 ws k q hq with ⟨h1, h2⟩ | h1 | ⟨h1, -⟩
    · refine (hP k q h2).kept (hk q.1 (hP k q h2).lt ?_)
      rintro ⟨k2, e2, h3⟩
      have h4 : (is.map (fun i => ws[i]?))[k2]? = some (some (q.1, e2)) := by rw [hC, List.getElem?_map, h3]; rfl
      rw [List.getElem?_map] at h4
      cases hi : is[k2]? with
      | none => rw [hi] at h4; cases h4
      | some i =>
        rw [hi] at h4
        have h5 := hD.1 i k (q.1, e2) q (Option.some.inj h4) h2 rfl
        exact h1 (h5 ▸ List.mem_of_getElem? hi)
    · obtain ⟨j, hj⟩ := List.getElem?_of_mem h1
      exact hP1 j q hj
    · rw [List.drop_eq_nil_of_le (by omega)] at h1; cases h1
  · have e1 : is.map (fun i => (ws[i]?).map Prod.fst) = (is.map (fun i => ws[i]?)).map (fun o => o.map Prod.fst) := by simp
    have e2 : w1.map (fun q => some q.1) = (w1.map Prod.fst).map some := by simp
    rw [e1, hC, e2, hfst]
    simp
theorem z_cVR (C : zC p s m args c cc nL own Ts D cI cO) {y : MethodName} {wsy : List Cond} {rm : Room} {bytes : ByteArray} {maxL index n : Nat} {ret : Option FieldType} {v : Option Value} {w0 : va_W} {As : List Value} {Cn : String} {T : u_T} {N ci b : Nat} {fs : List Value} (hM : zR l y wsy rm D cI cO (.ref b :: As) w0 v) (cw : CallW R s args own Cn index y bytes maxL ret wsy rm 0 0 n) (is : List Nat) (hnd : va_nd is = true) (hC : is.map (fun i => ws[i]?) = w0.map some) (q0 : Nat) (he : ws[q0]? = some (b, .inr (ci, fs))) (hc : vwCl[ci]? = some (Cn, T, N)) (hn : As.length = n) (stk : List Value) (hstk : stk = As.reverse ++ .ref b :: st) (hcat : (st.map fun v => v.category).sum ≤ 8) (hf : cells ≤ R.cells ∧ slots ≤ R.slots) (hdg : decode cc pc = .ok (.invokevirtual index, 3))
    (kk : zG p l e R s m args below meth c D A X nL cells slots Q (pc + 3) ls (v.toList ++ st) ws) : zG p l e R s m args below meth c D A X nL cells slots Q pc ls stk ws := by
  subst hstk
  intro H locs la hP hD hX hl
  obtain ⟨hP0, hD0, hA0⟩ := z_sub is hnd hC hP hD
  exact z_runR (va_runV (As := As) (rest := st) ⟨C.1, C.2.1, C.2.2.1, C.2.2.2.1, C.2.2.2.2.1⟩ hM cw ⟨zPc.blind, va_recv C.2.2.2.2.2.1 hP hc he, fun U hU hW => ⟨rfl, by rw [hU]; exact hP0, C.2.2.2.2.2.warm hW, hD0.weaken (fun _ _ _ _ => trivial)⟩⟩ rfl hn hl.1 rfl (lv_room hcat) hdg ⟨by simpa using hf.1, by simpa using hf.2⟩) (kk H locs la hP hD hX hl)
theorem z_cSR (C : zC p s m args c cc nL own Ts D cI cO) {y : MethodName} {wsy : List Cond} {rm : Room} {bytes : ByteArray} {maxL index n : Nat} {ret : Option FieldType} {v : Option Value} {w0 : va_W} {As : List Value} (hM : zR l y wsy rm D cI cO As w0 v) (cw : CallB R s args own index y bytes maxL ret wsy rm 0 0 n ∧ (Cond.static y).before args s = true) (is : List Nat) (hnd : va_nd is = true) (hC : is.map (fun i => ws[i]?) = w0.map some) (hn : As.length = n) (stk : List Value) (hstk : stk = As.reverse ++ st) (hcat : (st.map fun v => v.category).sum ≤ 8) (hf : cells ≤ R.cells ∧ slots ≤ R.slots) (hdg : decode cc pc = .ok (.invokestatic index, 3))
    (kk : zG p l e R s m args below meth c D A X nL cells slots Q (pc + 3) ls (v.toList ++ st) ws) : zG p l e R s m args below meth c D A X nL cells slots Q pc ls stk ws := by
  subst hstk
  intro H locs la hP hD hX hl
  obtain ⟨hP0, hD0, hA0⟩ := z_sub is hnd hC hP hD
  exact z_runR (va_runS (As := As) (rest := st) ⟨C.1, C.2.1, C.2.2.1, C.2.2.2.1, C.2.2.2.2.1⟩ hM cw ⟨zPc.blind, fun U hU hW => ⟨rfl, by rw [hU]; exact hP0, C.2.2.2.2.2.warm hW, hD0.weaken (fun _ _ _ _ => trivial)⟩⟩ rfl hn hl.1 rfl (lv_room hcat) hdg ⟨by simpa using hf.1, by simpa using hf.2⟩) (kk H locs la hP hD hX hl)
theorem z_cNR (C : zC p s m args c cc nL own Ts D cI cO) {y : MethodName} {wsy : List Cond} {rm : Room} {bytes : ByteArray} {maxL index n : Nat} {ret : Option FieldType} {v : Option Value} {w0 : va_W} {As : List Value} {host : String} (hM : zR l y wsy rm D cI cO As w0 v) (cw : va_CN R s args own index y host bytes maxL ret wsy rm 0 0 n ∧ (Cond.static y).before args s = true ∧ True) (is : List Nat) (hnd : va_nd is = true) (hC : is.map (fun i => ws[i]?) = w0.map some) (hn : As.length = n) (stk : List Value) (hstk : stk = As.reverse ++ st) (hcat : (st.map fun v => v.category).sum ≤ 8) (hf : cells ≤ R.cells ∧ slots ≤ R.slots) (hdg : decode cc pc = .ok (.invokestatic index, 3))
    (kk : zG p l e R s m args below meth c D A X nL cells slots Q (pc + 3) ls (v.toList ++ st) ws) : zG p l e R s m args below meth c D A X nL cells slots Q pc ls stk ws := by
  subst hstk
  intro H locs la hP hD hX hl
  obtain ⟨hP0, hD0, hA0⟩ := z_sub is hnd hC hP hD
  exact z_runR (va_runSN (As := As) (rest := st) ⟨C.1, C.2.1, C.2.2.1, C.2.2.2.1, C.2.2.2.2.1⟩ hM cw ⟨zPc.blind, fun U hU hW => ⟨rfl, by rw [hU]; exact hP0, C.2.2.2.2.2.warm hW, hD0.weaken (fun _ _ _ _ => trivial)⟩⟩ rfl hn hl.1 rfl (lv_room hcat) hdg ⟨by simpa using hf.1, by simpa using hf.2⟩) (kk H locs la hP hD hX hl)
theorem z_cVW (C : zC p s m args c cc nL own Ts D cI cO) {y : MethodName} {wsy : List Cond} {rm : Room} {bytes : ByteArray} {maxL index n : Nat} {ret : Option FieldType} {v : Option Value} {w0 : va_W} {As : List Value} {Cn : String} {T : u_T} {N ci b : Nat} {fs : List Value} {w1 : va_W} {H0 : Heap} (hM : zW l y wsy rm D cI cO (.ref b :: As) w0 w1 v) (cw : CallW R s args own Cn index y bytes maxL ret wsy rm 0 0 n) (ws1 : va_W) (is : List Nat) (hnd : va_nd is = true) (hC : is.map (fun i => ws[i]?) = w0.map some) (hfst : w1.map Prod.fst = w0.map Prod.fst) (hput : zput ws is w1 = ws1) (q0 : Nat) (he : ws[q0]? = some (b, .inr (ci, fs))) (hc : vwCl[ci]? = some (Cn, T, N)) (hn : As.length = n) (stk : List Value) (hstk : stk = As.reverse ++ .ref b :: st) (hcat : (st.map fun v => v.category).sum ≤ 8) (hf : cells ≤ R.cells ∧ slots ≤ R.slots) (hdg : decode cc pc = .ok (.invokevirtual index, 3))
    (kk : zG p l e R s m args below meth c D A (zXw A H0) nL cells slots Q (pc + 3) ls (v.toList ++ st) ws1) : zG p l e R s m args below meth c D A (zXw A H0) nL cells slots Q pc ls stk ws := by
  subst hstk
  intro H locs la hP hD hX hl
  obtain ⟨hP0, hD0, hA0⟩ := z_sub is hnd hC hP hD
  refine z_runW (va_runV (As := As) (rest := st) ⟨C.1, C.2.1, C.2.2.1, C.2.2.2.1, C.2.2.2.2.1⟩ hM cw ⟨zPc.blind, va_recv C.2.2.2.2.2.1 hP hc he, fun U hU hW => ⟨rfl, by rw [hU]; exact hP0, C.2.2.2.2.2.warm hW, hD0.weaken (fun _ _ _ _ => trivial)⟩⟩ rfl hn hl.1 rfl (lv_room hcat) hdg ⟨by simpa using hf.1, by simpa using hf.2⟩) hX hA0 (fun H1 locs1 hP1 hk1 hS1 => ?_)
  obtain ⟨g1, g2⟩ := z_back is hnd hC hfst hput hP hD hP1 hk1
  exact kk H1 locs1 la g1 g2 hS1 hl
theorem z_cSW (C : zC p s m args c cc nL own Ts D cI cO) {y : MethodName} {wsy : List Cond} {rm : Room} {bytes : ByteArray} {maxL index n : Nat} {ret : Option FieldType} {v : Option Value} {w0 : va_W} {As : List Value} {w1 : va_W} {H0 : Heap} (hM : zW l y wsy rm D cI cO As w0 w1 v) (cw : CallB R s args own index y bytes maxL ret wsy rm 0 0 n ∧ (Cond.static y).before args s = true) (ws1 : va_W) (is : List Nat) (hnd : va_nd is = true) (hC : is.map (fun i => ws[i]?) = w0.map some) (hfst : w1.map Prod.fst = w0.map Prod.fst) (hput : zput ws is w1 = ws1) (hn : As.length = n) (stk : List Value) (hstk : stk = As.reverse ++ st) (hcat : (st.map fun v => v.category).sum ≤ 8) (hf : cells ≤ R.cells ∧ slots ≤ R.slots) (hdg : decode cc pc = .ok (.invokestatic index, 3))
    (kk : zG p l e R s m args below meth c D A (zXw A H0) nL cells slots Q (pc + 3) ls (v.toList ++ st) ws1) : zG p l e R s m args below meth c D A (zXw A H0) nL cells slots Q pc ls stk ws := by
  subst hstk
  intro H locs la hP hD hX hl
  obtain ⟨hP0, hD0, hA0⟩ := z_sub is hnd hC hP hD
  refine z_runW (va_runS (As := As) (rest := st) ⟨C.1, C.2.1, C.2.2.1, C.2.2.2.1, C.2.2.2.2.1⟩ hM cw ⟨zPc.blind, fun U hU hW => ⟨rfl, by rw [hU]; exact hP0, C.2.2.2.2.2.warm hW, hD0.weaken (fun _ _ _ _ => trivial)⟩⟩ rfl hn hl.1 rfl (lv_room hcat) hdg ⟨by simpa using hf.1, by simpa using hf.2⟩) hX hA0 (fun H1 locs1 hP1 hk1 hS1 => ?_)
  obtain ⟨g1, g2⟩ := z_back is hnd hC hfst hput hP hD hP1 hk1
  exact kk H1 locs1 la g1 g2 hS1 hl
end ZG
theorem zN_0 {U : State} (h : zN U) : va_Nw (.methodLinkNest RX5 11 yX4_init RX5) U := h (RX5, 11, yX4_init) (List.mem_of_getElem? (i := 0) rfl)  -- zN_0
theorem zN_1 {U : State} (h : zN U) : va_Nw (.methodLinkNest RX5 20 yX2_init RX5) U := h (RX5, 20, yX2_init) (List.mem_of_getElem? (i := 1) rfl)  -- zN_0
theorem zN_2 {U : State} (h : zN U) : va_Nw (.methodLinkNest RX5 27 yX0_init RX5) U := h (RX5, 27, yX0_init) (List.mem_of_getElem? (i := 2) rfl)  -- zN_0
theorem zN_3 {U : State} (h : zN U) : va_Nw (.methodLinkNest RX5 34 yX1_init RX5) U := h (RX5, 34, yX1_init) (List.mem_of_getElem? (i := 3) rfl)  -- zN_0
theorem zN_4 {U : State} (h : zN U) : va_Nw (.methodLinkNest RX5 45 yX3_init RX5) U := h (RX5, 45, yX3_init) (List.mem_of_getElem? (i := 4) rfl)  -- zN_0
theorem zN_5 {U : State} (h : zN U) : va_Nw (.methodLinkNest RX0 11 yX4_init RX5) U := h (RX0, 11, yX4_init) (List.mem_of_getElem? (i := 5) rfl)  -- zN_0
theorem zN_6 {U : State} (h : zN U) : va_Nw (.methodLinkNest RX2 37 yX5_wishOf RX5) U := h (RX2, 37, yX5_wishOf) (List.mem_of_getElem? (i := 6) rfl)  -- zN_0
theorem zN_7 {U : State} (h : zN U) : va_Nw (.methodLinkNest RX4 54 yX5_turnOf RX5) U := h (RX4, 54, yX5_turnOf) (List.mem_of_getElem? (i := 7) rfl)  -- zN_0
theorem zN_8 {U : State} (h : zN U) : va_Nw (.methodLinkNest RX4 58 yX5_wishOf RX5) U := h (RX4, 58, yX5_wishOf) (List.mem_of_getElem? (i := 8) rfl)  -- zN_0
theorem zne {x k : Int32} {z : Int} (h : ¬ x = k) (hz : k.toInt = z) : x.toInt ≠ z := fun e => h (Int32.toInt_inj.mp (e.trans hz.symm))
