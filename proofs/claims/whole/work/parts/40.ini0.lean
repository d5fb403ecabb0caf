/-! THE LAYER FOR CONSTRUCTORS: the world grows -/
def zIPc (D : va_G) (cI cO : ClassId) (b : Bool) (av : List Value) (w0 : va_W) (sz : Nat) : Array Value → State → Prop := va_Pc av (fun U => U.heap.size = sz ∧ va_P D vwCl w0 U.heap ∧ zK D cI cO U ∧ va_D (fun _ => True) w0 ∧ (b = true → va_AO RX3 U))
theorem zIPc.blind {D : va_G} {cI cO : ClassId} {b : Bool} {av : List Value} {w0 : va_W} {sz : Nat} : FrameBlind (zIPc D cI cO b av w0 sz) := fun a U g mk q => ⟨q.1, q.2.1, q.2.2.1, q.2.2.2.1.blind, q.2.2.2.2.1, fun hb => va_AO.moved (u := U) (U := U.calling g mk a) (Vm.Alike.refl U.vm) (q.2.2.2.2.2 hb)⟩
def zIQ (D : va_G) (post : va_W → Prop) (A : Nat → Prop) : Array Value → State → Outcome → State → Prop := va_Qv post (fun w1 t => va_P D vwCl w1 t.heap ∧ va_D A w1) A
/-- a constructor's contract: it turns its world into one of 'post', whose new cells are fresh -/
def zI (l : Launch) (y : MethodName) (ws : List Cond) (rm : Room) (D : va_G) (cI cO : ClassId) (b : Bool) (av : List Value) (w0 : va_W) (post : va_W → Prop) (mc ms : Nat) : Prop := ∀ sz : Nat, Met l y ws rm (zIPc D cI cO b av w0 sz) (zIQ D post (va_A w0 sz)) mc ms (va_A w0 sz)
section ZI
variable {p : Program} {l : Launch} {e : Env} {R : Room} {s : State} {m : MethodId} {args : Array Value} {below : List Frame} {meth : Method} {c : Code} {D : va_G} {A : Nat → Prop} {X : Heap → List Loc → Prop} {nL cells slots : Nat} {Q : State → Prop} {pc : Nat} {ls : List (Nat × Value)} {st : List Value} {ws : va_W} {cc : ByteArray} {own : String} {Ts : List Cond} {cI cO : ClassId}
theorem zI_of {y : MethodName} {wsy wsy' : List Cond} {rm : Room} {b : Bool} {av : List Value} {w0 : va_W} {post : va_W → Prop} {mc ms : Nat} (hcls : plainName y.cls = true) (hy : y.name = "<init>") (hw : wsy = Cond.code y cc nL none :: wsy') (hn : (lg_sl av).length ≤ nL) {lv : List (Nat × Value)} (hlv : lv_args 0 av = lv)
    (body : ∀ (p : Program) (e : Env) (s : State) (m : MethodId) (args : Array Value) (below : List Frame) (meth : Method) (c : Code) (A : Nat → Prop), zC p s m args c cc nL y.cls wsy D cI cO → meth.sig.returnType = none → meth.locks = false → meth.name = "<init>" → (b = true → va_AO RX3 s) → (∀ q, s.heap.size ≤ q → A q) → zG p l e rm s m args below meth c D A (zXw A s.heap) nL 0 0 (MQ below (zIQ D post A) args s mc ms A) 0 lv [] w0) : zI l y wsy rm D cI cO b av w0 post mc ms := by
  subst hlv
  intro sz
  refine Met.ofW (cc := cc) (maxL := nL) (ret := none) hcls hw ?_
  intro p e s m args below meth c s₁ B hml hv
  obtain ⟨rfl, hsz, hP, hK, hD, hb⟩ := hv
  subst hsz
  have h := body p e s m _ below meth c (va_A w0 s.heap.size) ⟨B.exec, B.bytes, hml, findClass_of_methodNamed B.named, atoms_spec (ws := wsy) B.pre, hK⟩ B.returns B.notSynchronized ((name_of_methodNamed B.named B.method).1.trans hy) hb (fun q h => Or.inr h) s.heap [] _ hP hD.self va_S.rf (lv_entry av hn)
  rw [lg_entry_eq]
  exact h
theorem z_vretI (C : zC p s m args c cc nL own Ts D cI cO) {post : va_W → Prop} (hr : meth.sig.returnType = none) (hlk : meth.locks = false) {mc ms : Nat} (hc1 : cells = mc) (hc2 : slots = ms) (hpost : post ws) (hdg : decode cc pc = .ok (.return_, 1)) : zG p l e R s m args below meth c D A (zXw A s.heap) nL cells slots (MQ below (zIQ D post A) args s mc ms A) pc ls [] ws := by
  subst hc1; subst hc2
  exact fun H locs la hP hD hX hl => W.vret C.1 C.2.1 hr (fun t ht hW => ⟨⟨ws, rfl, hpost, by rw [ht]; exact hP, hD⟩, hX.F ht⟩) hX.2.2 hdg hlk
theorem z_objI (C : zC p s m args c cc nL own Ts D cI cO) {idx a : Nat} (h1 : Cond.methodLink own idx objectInit ∈ Ts) (h2 : Cond.instanceMethod objectInit ∈ Ts) (h3 : Cond.code objectInit ⟨#[0xb1]⟩ 1 none ∈ Ts) (hf : 1 ≤ R.frames) (hlo : (st.map fun v => v.category).sum + 12 ≤ R.locals) (hdg : decode cc pc = .ok (.invokespecial idx, 3))
    (kk : zG p l e R s m args below meth c D A X nL cells slots Q (pc + 3) ls st ws) : zG p l e R s m args below meth c D A X nL cells slots Q pc ls (.ref a :: st) ws := fun H locs la hP hD hX hl =>
  W.objInit C.1 C.2.1 C.2.2.2.1 (C.2.2.2.2.1 _ h1) (C.2.2.2.2.1 _ h2) (C.2.2.2.2.1 _ h3) rfl (by rw [C.2.2.1]; exact hl.1) rfl hdg hf (by show 2 * 0 + (st.map fun v => v.category).sum + 12 ≤ R.locals; omega) (W.eq (g2 := F0 m (pc + 3) la st) rfl (kk H locs la hP hD hX hl))
theorem z_new (C : zC p s m args c cc nL own Ts D cI cO) {Cn : String} {T : u_T} {N ci index nc ns : Nat} {H0 : Heap} (hA : ∀ q, H0.size ≤ q → A q) (hin : ∀ w ∈ u_ws Cn T N, w ∈ Ts) (ty : Nat → FieldType) (hty : ∀ k, k < N → parseFieldDescriptor (T k).2.2.1 = some (ty k)) (hcl : Cond.classLink own index Cn ∈ Ts) (hinst : Cond.instantiable Cn N ∈ Ts) (hini : Cond.initialized Cn ∈ Ts) (hc : vwCl[ci]? = some (Cn, T, N)) (fs : List Value) (hfs : ∀ j, j < N → defaultValue (ty j) = vp_V fs j) (hnc : cells + 1 = nc) (hns : slots + N = ns) (hcells : nc ≤ R.cells) (hslots : ns ≤ R.slots) (hdg : decode cc pc = .ok (.new index, 3))
    (kk : ∀ q : Nat, zG p l e R s m args below meth c D A (zXw A H0) nL nc ns Q (pc + 3) ls (.ref q :: st) (ws ++ [(q, .inr (ci, fs))])) : zG p l e R s m args below meth c D A (zXw A H0) nL cells slots Q pc ls st ws := by
  subst hnc; subst hns
  exact fun H locs la hP hD hX hl => va_new C.1 C.2.1 C.2.2.2.2.1 hin ty hty C.2.2.2.1 (C.2.2.2.2.1 _ hcl) (C.2.2.2.2.1 _ hinst) (C.2.2.2.2.1 _ hini) C.2.2.2.2.2.1 hP hD hX hA hc hfs hcells hslots hdg (fun q H1 hP1 hD1 hS1 => kk q H1 locs la hP1 hD1 hS1 hl)
theorem z_newa (C : zC p s m args c cc nL own Ts D cI cO) {N nc ns : Nat} {H0 : Heap} (hA : ∀ q, H0.size ≤ q → A q) (harr : Cond.arrayClass .int ∈ Ts) {n : Int32} (hn : ¬ n < 0) (hN : n.toNatClampNeg = N) (hb : N * 4 ≤ 536870912) (hnc : cells + 1 = nc) (hns : slots + N = ns) (hcells : nc ≤ R.cells) (hslots : ns ≤ R.slots) (hdg : decode cc pc = .ok (.newarray .int, 2))
    (kk : ∀ q : Nat, zG p l e R s m args below meth c D A (zXw A H0) nL nc ns Q (pc + 2) ls (.ref q :: st) (ws ++ [(q, .inl (cI, N, .inl (fun _ => 0)))])) : zG p l e R s m args below meth c D A (zXw A H0) nL cells slots Q pc ls (.int n :: st) ws := by
  subst hnc; subst hns
  refine fun H locs la hP hD hX hl => va_newa (atype := .int) (ty := .int) (a0 := (N, .inl (fun _ => 0))) C.1 C.2.1 (C.2.2.2.2.1 _ harr) rfl C.2.2.2.2.2.1 hP hD hX hA (fun _ => rfl) hn hN hb hcells hslots hdg (fun q cA H1 hK1 hP1 hD1 hS1 => ?_)
  have e1 : s.vm.findClass ("[" ++ FieldType.int.toString) = some cA := (hK1.2 2 (cA, .int) rfl).2
  have e2 : s.vm.findClass ("[" ++ FieldType.int.toString) = some cI := (C.2.2.2.2.2.1.2 0 (cI, .int) rfl).2
  have e3 : cA = cI := Option.some.inj (e1.symm.trans e2)
  subst e3
  exact kk q H1 locs la hP1 hD1 hS1 hl
theorem z_newq (C : zC p s m args c cc nL own Ts D cI cO) {index N nc ns : Nat} {H0 : Heap} (hA : ∀ q, H0.size ≤ q → A q) (hcl : Cond.classLink own index RX3 ∈ Ts) (hov : va_AO RX3 s) {n : Int32} (hn : ¬ n < 0) (hN : n.toNatClampNeg = N) (hb : N * 4 ≤ 536870912) (hnc : cells + 1 = nc) (hns : slots + N = ns) (hcells : nc ≤ R.cells) (hslots : ns ≤ R.slots) (hdg : decode cc pc = .ok (.anewarray index, 3))
    (kk : ∀ q : Nat, zG p l e R s m args below meth c D A (zXw A H0) nL nc ns Q (pc + 3) ls (.ref q :: st) (ws ++ [(q, .inl (cO, N, .inr (.inr (.inr (.inr (fun _ => none))))))])) : zG p l e R s m args below meth c D A (zXw A H0) nL cells slots Q pc ls (.int n :: st) ws := by
  subst hnc; subst hns
  refine fun H locs la hP hD hX hl => va_newq C.1 C.2.1 C.2.2.2.1 (C.2.2.2.2.1 _ hcl) hov C.2.2.2.2.2.1 hP hD hX hA hn hN hb hcells hslots hdg (fun q cA H1 hK1 hP1 hD1 hS1 => ?_)
  obtain ⟨_, _, _, _, _, e1⟩ := (hK1.2 2 (cA, .object RX3) rfl).2
  obtain ⟨_, _, _, _, _, e2⟩ := (C.2.2.2.2.2.1.2 1 (cO, .object RX3) rfl).2
  have e3 : cA = cO := Option.some.inj (e1.symm.trans e2)
  subst e3
  exact kk q H1 locs la hP1 hD1 hS1 hl
theorem z_putF (C : zC p s m args c cc nL own Ts D cI cO) {ref Cn : String} {T : u_T} {N ci index : Nat} {a : Nat} {H0 : Heap} (ws1 : va_W) (hin : ∀ w ∈ u_ws Cn T N, w ∈ Ts) (ty0 : Nat → FieldType) (hty : ∀ k, k < N → parseFieldDescriptor (T k).2.2.1 = some (ty0 k)) (hnm : ∀ a, a < N → ∀ b, b < N → a ≠ b → (T a).2.1 ≠ (T b).2.1) (q0 : Nat) {fs : List Value} (he : ws[q0]? = some (a, .inr (ci, fs))) (hc : vwCl[ci]? = some (Cn, T, N)) (k : Nat) (hk : k < N) (hlink : Cond.fieldLink own index ref (T k).2.1 (T k).2.2.1 ∈ Ts) (href : (T k).1 = ref) (hfin : (T k).2.2.2 = true) (hin2 : meth.name = "<init>") (hdecl : (T k).1 = own) {ty : FieldType} {v : Value} (hd : parseFieldDescriptor (T k).2.2.1 = some ty) (hn : narrow ty v = v) (hfit : fits ty v = true) (hl0 : k < fs.length) (hdg : decode cc pc = .ok (.putfield index, 3)) (hw : ws.set q0 (a, .inr (ci, fs.set k v)) = ws1)
    (kk : zG p l e R s m args below meth c D A (zXw A H0) nL cells slots Q (pc + 3) ls st ws1) : zG p l e R s m args below meth c D A (zXw A H0) nL cells slots Q pc ls (v :: .ref a :: st) ws := by
  subst hw
  exact fun H locs la hP hD hX hl => va_putF C.1 C.2.1 C.2.2.2.2.1 hin ty0 hty hnm C.2.2.2.1 C.2.2.2.2.2.1 hP hD hX q0 he hc k hk (C.2.2.2.2.1 _ hlink) (fun x h => by rw [← href]; exact h) hfin hin2 hdecl hd hn hfit hl0 hdg (fun H1 locs1 hP1 hD1 hS1 => kk H1 locs1 la hP1 hD1 hS1 hl)
theorem z_astq (C : zC p s m args c cc nL own Ts D cI cO) {a n v ci : Nat} {T : u_T} {N : Nat} {vs : List Value} {f : Nat → Option Nat} {H0 : Heap} (ws1 : va_W) (q0 qk : Nat) (ha : ws[q0]? = some (a, .inl (cO, n, .inr (.inr (.inr (.inr f)))))) (hk : ws[qk]? = some (v, .inr (ci, vs))) (hc : vwCl[ci]? = some (RX3, T, N)) {i : Int32} (hin : vp_in i n) (hdg : decode cc pc = .ok (.aastore, 1)) (hw : ws.set q0 (a, .inl (cO, n, .inr (.inr (.inr (.inr (va_up f i.toNatClampNeg (some v))))))) = ws1)
    (kk : zG p l e R s m args below meth c D A (zXw A H0) nL cells slots Q (pc + 1) ls st ws1) : zG p l e R s m args below meth c D A (zXw A H0) nL cells slots Q pc ls (.ref v :: .int i :: .ref a :: st) ws := by
  subst hw
  exact fun H locs la hP hD hX hl => va_astq C.1 C.2.1 C.2.2.2.2.2.1 hP hD hX q0 1 qk ci ha rfl hk hc hin hdg (fun H1 locs1 hP1 hD1 hS1 => kk H1 locs1 la hP1 hD1 hS1 hl)
theorem zW_perm (is : List Nat) {ws' : va_W} (hnd : va_nd is = true) (hm : is.map (fun i => ws[i]?) = ws'.map some) (kk : zG p l e R s m args below meth c D A X nL cells slots Q pc ls st ws') : zG p l e R s m args below meth c D A X nL cells slots Q pc ls st ws := fun H locs la hP hD hX hl => kk H locs la (fun k q hq => by
    have h1 : (is.map (fun i => ws[i]?))[k]? = some (some q) := by rw [hm, List.getElem?_map, hq]; rfl
    rw [List.getElem?_map] at h1
    cases hi : is[k]? with
    | none => rw [hi] at h1; cases h1
    | some i => rw [hi] at h1; exact hP i q (Option.some.inj h1)) (hD.sub is hnd hm) hX hl
theorem z_cIN (C : zC p s m args c cc nL own Ts D cI cO) {y : MethodName} {wsy : List Cond} {rm : Room} {bb : Bool} {host : String} {index maxL b0 mc ms nc ns : Nat} {bytes : ByteArray} {w0 wr : va_W} {post : va_W → Prop} {H0 : Heap} (hM : zI l y wsy rm D cI cO bb [.ref b0] w0 post mc ms) (cw : va_CN R s args own index y host bytes maxL none wsy rm mc ms 0 ∧ y.name = "<init>" ∧ (Cond.instanceMethod y).before args s = true) (hbb : bb = true → va_AO RX3 s) (hA : ∀ q, H0.size ≤ q → A q) (isC isR : List Nat) (hC : isC.map (fun i => ws[i]?) = w0.map some) (hR : isR.map (fun i => ws[i]?) = wr.map some) (hndC : va_nd isC = true) (hnd : va_nd isR = true) (hdis : ∀ i ∈ isR, i ∉ isC) (hcat : (st.map fun v => v.category).sum ≤ 8) (hnc : cells + mc = nc) (hns : slots + ms = ns) (hf : nc ≤ R.cells ∧ ns ≤ R.slots) (hdg : decode cc pc = .ok (.invokespecial index, 3))
    (kk : ∀ w1 : va_W, post w1 → zG p l e R s m args below meth c D A (zXw A H0) nL nc ns Q (pc + 3) ls st (wr ++ w1)) : zG p l e R s m args below meth c D A (zXw A H0) nL cells slots Q pc ls (.ref b0 :: st) ws := by
  subst hnc; subst hns
  intro H locs la hP hD hX hl
  obtain ⟨hP0, hD0, hA0⟩ := z_sub isC hndC hC hP hD
  have hF := va_free (wc := w0) hD hX hA isC hC
  refine va_callv (va_runIN (As := []) (rest := st) ⟨C.1, C.2.1, C.2.2.1, C.2.2.2.1, C.2.2.2.2.1⟩ (hM H.size) cw ⟨zIPc.blind, fun U hU hW => ⟨rfl, by rw [hU], by rw [hU]; exact hP0, C.2.2.2.2.2.warm hW, hD0.weaken (fun _ _ _ _ => trivial), fun hb => va_AO.moved hW.alike (hbb hb)⟩⟩ rfl rfl hl.1 rfl (lv_room hcat) hdg hf) hX (fun q _ h => hF q h) hF (fun u t H1 locs1 ht hvm hu hB hz1 hk1 hS1 => ?_)
  obtain ⟨hP1, hD1⟩ := hB
  rw [ht] at hP1
  obtain ⟨g1, g2⟩ := va_join hP hD isC isR hC hR hnd hdis hk1 hF hP1 hD1
  exact kk u hu H1 locs1 la g1 g2 hS1 hl
theorem z_cI (C : zC p s m args c cc nL own Ts D cI cO) {y : MethodName} {wsy : List Cond} {rm : Room} {bb : Bool} {index maxL b0 mc ms nc ns : Nat} {bytes : ByteArray} {w0 wr : va_W} {post : va_W → Prop} {H0 : Heap} (hM : zI l y wsy rm D cI cO bb [.ref b0] w0 post mc ms) (cw : CallB R s args own index y bytes maxL none wsy rm mc ms 0 ∧ y.name = "<init>" ∧ (Cond.instanceMethod y).before args s = true) (hbb : bb = true → va_AO RX3 s) (hA : ∀ q, H0.size ≤ q → A q) (isC isR : List Nat) (hC : isC.map (fun i => ws[i]?) = w0.map some) (hR : isR.map (fun i => ws[i]?) = wr.map some) (hndC : va_nd isC = true) (hnd : va_nd isR = true) (hdis : ∀ i ∈ isR, i ∉ isC) (hcat : (st.map fun v => v.category).sum ≤ 8) (hnc : cells + mc = nc) (hns : slots + ms = ns) (hf : nc ≤ R.cells ∧ ns ≤ R.slots) (hdg : decode cc pc = .ok (.invokespecial index, 3))
    (kk : ∀ w1 : va_W, post w1 → zG p l e R s m args below meth c D A (zXw A H0) nL nc ns Q (pc + 3) ls st (wr ++ w1)) : zG p l e R s m args below meth c D A (zXw A H0) nL cells slots Q pc ls (.ref b0 :: st) ws := by
  subst hnc; subst hns
  intro H locs la hP hD hX hl
  obtain ⟨hP0, hD0, hA0⟩ := z_sub isC hndC hC hP hD
  have hF := va_free (wc := w0) hD hX hA isC hC
  refine va_callv (va_runI (As := []) (rest := st) ⟨C.1, C.2.1, C.2.2.1, C.2.2.2.1, C.2.2.2.2.1⟩ (hM H.size) cw ⟨zIPc.blind, fun U hU hW => ⟨rfl, by rw [hU], by rw [hU]; exact hP0, C.2.2.2.2.2.warm hW, hD0.weaken (fun _ _ _ _ => trivial), fun hb => va_AO.moved hW.alike (hbb hb)⟩⟩ rfl rfl hl.1 rfl (lv_room hcat) hdg hf) hX (fun q _ h => hF q h) hF (fun u t H1 locs1 ht hvm hu hB hz1 hk1 hS1 => ?_)
  obtain ⟨hP1, hD1⟩ := hB
  rw [ht] at hP1
  obtain ⟨g1, g2⟩ := va_join hP hD isC isR hC hR hnd hdis hk1 hF hP1 hD1
  exact kk u hu H1 locs1 la g1 g2 hS1 hl
end ZI
theorem hdS_X0_init : yX0_init.cls ≠ "java/lang/invoke/MethodHandle" ∧ yX0_init.cls ≠ "java/lang/invoke/VarHandle" ∧ (parseMethodDescriptor yX0_init.desc).map (fun d => d.parameters.length) = some 0 := by decide +kernel
theorem hdS_X1_init : yX1_init.cls ≠ "java/lang/invoke/MethodHandle" ∧ yX1_init.cls ≠ "java/lang/invoke/VarHandle" ∧ (parseMethodDescriptor yX1_init.desc).map (fun d => d.parameters.length) = some 0 := by decide +kernel
theorem hdS_X2_init : yX2_init.cls ≠ "java/lang/invoke/MethodHandle" ∧ yX2_init.cls ≠ "java/lang/invoke/VarHandle" ∧ (parseMethodDescriptor yX2_init.desc).map (fun d => d.parameters.length) = some 0 := by decide +kernel
theorem hdS_X3_init : yX3_init.cls ≠ "java/lang/invoke/MethodHandle" ∧ yX3_init.cls ≠ "java/lang/invoke/VarHandle" ∧ (parseMethodDescriptor yX3_init.desc).map (fun d => d.parameters.length) = some 0 := by decide +kernel
theorem hdS_X4_init : yX4_init.cls ≠ "java/lang/invoke/MethodHandle" ∧ yX4_init.cls ≠ "java/lang/invoke/VarHandle" ∧ (parseMethodDescriptor yX4_init.desc).map (fun d => d.parameters.length) = some 0 := by decide +kernel
theorem hdS_X5_init : yX5_init.cls ≠ "java/lang/invoke/MethodHandle" ∧ yX5_init.cls ≠ "java/lang/invoke/VarHandle" ∧ (parseMethodDescriptor yX5_init.desc).map (fun d => d.parameters.length) = some 0 := by decide +kernel
theorem hdS_X6_init : yX6_init.cls ≠ "java/lang/invoke/MethodHandle" ∧ yX6_init.cls ≠ "java/lang/invoke/VarHandle" ∧ (parseMethodDescriptor yX6_init.desc).map (fun d => d.parameters.length) = some 0 := by decide +kernel
