theorem zMet_ofWF {l : Launch} {y : MethodName} {ws ws' : List Cond} {rm : Room} {Pc : Array Value → State → Prop} {Qc : Array Value → State → Outcome → State → Prop} {mc ms : Nat} {free : Addr → Prop} {cc : ByteArray} {maxL : Nat} {ret : Option FieldType}
    (hy : plainFor y = true) (hw : ws = Cond.code y cc maxL ret :: ws')
    (body : ∀ p e s m args below meth c s₁, BodyLoose p l y (headSpec ws rm) cc maxL ret e s m args below meth c s₁ → c.maxLocals = maxL → Pc args s →
      W p l e (headSpec ws rm).room s m args below meth c s.heap [] 0 0 (MQ below Qc args s mc ms free) (entryFrame m args maxL)) : Met l y ws rm Pc Qc mc ms free := by
  refine MetFree.of_bodySF (code := cc) (maxLocals := maxL) (ret := ret) hy ?_ ?_
  · intro args s m h hn
    obtain ⟨meth, c, h1, h2, h3, h4, h5, h6, -, -⟩ := Cond.code_spec hn (atoms_spec (ws := ws) h _ (by rw [hw]; exact List.mem_cons_self))
    exact ⟨meth, c, h1, h2, h3, h4, h5, h6⟩
  · intro p e s m args below meth c s₁ B hml hP _
    have hh0 : s₁.heap = s.heap := by rw [B.state]; rfl
    obtain ⟨t, a1, o, b1, b2, b3⟩ := body p e s m args below meth c s₁ B hml hP s₁ hh0 (Stand.of_body B)
    exact ⟨t, o, a1, b1, b2, ⟨b3.1, b3.2⟩⟩
theorem zR_ofF {l : Launch} {D : va_G} {nL : Nat} {cc : ByteArray} {cI cO : ClassId} {y : MethodName} {wsy wsy' : List Cond} {rm : Room} {av : List Value} {w0 : va_W} {v : Option Value} {ret : Option FieldType} {lv : List (Nat × Value)} (hcls : plainFor y = true) (hw : wsy = Cond.code y cc nL ret :: wsy') (hn : (lg_sl av).length ≤ nL) (hlv : lv_args 0 av = lv)
    (body : ∀ (p : Program) (e : Env) (s : State) (m : MethodId) (args : Array Value) (below : List Frame) (meth : Method) (c : Code), zC p s m args c cc nL y.cls wsy D cI cO → meth.sig.returnType = ret → meth.locks = false → zG p l e rm s m args below meth c D (fun _ => True) (zXr s) nL 0 0 (MQ below (zQr v) args s 0 0 (fun _ => False)) 0 lv [] w0) : zR l y wsy rm D cI cO av w0 v := by
  subst hlv
  refine zMet_ofWF (cc := cc) (maxL := nL) (ret := ret) hcls hw ?_
  intro p e s m args below meth c s₁ B hml hv
  obtain ⟨rfl, hP, hK, hD⟩ := hv
  have h := body p e s m _ below meth c ⟨B.exec, B.bytes, hml, findClass_of_methodNamed B.named, atoms_spec (ws := wsy) B.pre, hK⟩ B.returns B.notSynchronized s.heap [] _ hP hD ⟨rfl, rfl⟩ (lv_entry av hn)
  rw [lg_entry_eq]
  exact h
-- J9_floorMod_7cf53
def F_J9_floorMod_7cf53 (x : Int32) (y : Int32) : Int32 :=
  (if 0 ≤ (x ^^^ y) then (x - x / y * y) else (if (x - x / y * y) = 0 then (x - x / y * y) else ((x - x / y * y) + y)))
set_option maxHeartbeats 4000000 in
set_option maxRecDepth 100000 in
theorem c_J9_floorMod_7cf53 (l : Launch) (D : va_G) (cI cO : ClassId) (x : Int32) (y : Int32) (hy : ¬ y = 0) : zR l yJ9_floorMod_7cf53 wsJ9_floorMod_7cf53 ({ frames := 0, cells := 0, slots := 0, locals := 0 } : Room) D cI cO [.int x, .int y] [] (some (.int (F_J9_floorMod_7cf53 x y))) := by
  refine zR_ofF (nL := 3) (cc := cJ9_floorMod_7cf53) (ret := some .int) (lv := [(0, .int x), (1, .int y)]) (by decide +kernel) rfl (Nat.le_of_ble_eq_true rfl) rfl (fun p e s m args below meth c C hr hlk => ?_)
  have hf := F_J9_floorMod_7cf53.eq_1 x y
  refine z_iload_n C dJ9_floorMod_7cf53_0 rfl 0 rfl ?_
  refine z_iload_n C dJ9_floorMod_7cf53_1 rfl 1 rfl ?_
  refine z_irem C dJ9_floorMod_7cf53_2 hy ?_
  refine z_istore_n C [(0, .int x), (1, .int y), (2, .int (x - x / y * y))] dJ9_floorMod_7cf53_3 rfl (by decide) [1, 2, 0] rfl ?_
  refine z_iload_n C dJ9_floorMod_7cf53_4 rfl 0 rfl ?_
  refine z_iload_n C dJ9_floorMod_7cf53_5 rfl 1 rfl ?_
  refine z_ixor C dJ9_floorMod_7cf53_6 ?_
  refine z_if_ge (tgt := 18) C dJ9_floorMod_7cf53_7 (by decide) (fun c7 => ?_) (fun c7 => ?_)
  · rw [if_pos c7] at hf
    refine z_iload_n C dJ9_floorMod_7cf53_18 rfl 2 rfl ?_
    exact z_iretR C hr hlk (by rw [hf]) dJ9_floorMod_7cf53_19
  · rw [if_neg c7] at hf
    refine z_iload_n C dJ9_floorMod_7cf53_10 rfl 2 rfl ?_
    refine z_if_eq (tgt := 18) C dJ9_floorMod_7cf53_11 (by decide) (fun c11 => ?_) (fun c11 => ?_)
    · rw [if_pos c11] at hf
      refine z_iload_n C dJ9_floorMod_7cf53_18 rfl 2 rfl ?_
      exact z_iretR C hr hlk (by rw [hf]) dJ9_floorMod_7cf53_19
    · rw [if_neg c11] at hf
      refine z_iload_n C dJ9_floorMod_7cf53_14 rfl 2 rfl ?_
      refine z_iload_n C dJ9_floorMod_7cf53_15 rfl 1 rfl ?_
      refine z_iadd C dJ9_floorMod_7cf53_16 ?_
      exact z_iretR C hr hlk (by rw [hf]) dJ9_floorMod_7cf53_17
theorem tm6 (a : Int) : (0 ≤ a → a.tdiv 6 = a / 6 ∧ a.tmod 6 = a % 6) ∧ (a < 0 → a.tdiv 6 = -((-a) / 6) ∧ a.tmod 6 = -((-a) % 6)) := by
  refine ⟨fun h => ⟨Int.tdiv_eq_ediv_of_nonneg h, Int.tmod_eq_emod_of_nonneg h⟩, fun h => ?_⟩
  have e : a = -(-a) := by omega
  have h2 : 0 ≤ -a := by omega
  constructor
  · rw [e, Int.neg_tdiv, Int.tdiv_eq_ediv_of_nonneg h2]; omega
  · rw [e, Int.neg_tmod, Int.tmod_eq_emod_of_nonneg h2]; omega
theorem rem6 (z : Int32) : (z - z / 6 * 6).toInt = z.toInt.tmod 6 := by
  have e6 : (6 : Int32).toInt = 6 := by decide
  have b1 := Int32.le_toInt z
  have b2 := Int32.toInt_lt z
  have hd : (z / 6).toInt = z.toInt.tdiv 6 := by rw [Int32.toInt_div_of_ne_right _ _ (by decide), e6]
  have t := tm6 z.toInt
  have hm : (z / 6 * 6).toInt = z.toInt.tdiv 6 * 6 := by
    rw [Int32.toInt_mul, hd, e6]
    rcases (by omega : z.toInt < 0 ∨ 0 ≤ z.toInt) with q | q
    · rw [(t.2 q).1]; apply Int.bmod_eq_of_le <;> omega
    · rw [(t.1 q).1]; apply Int.bmod_eq_of_le <;> omega
  rw [Int32.toInt_sub, hm]
  rcases (by omega : z.toInt < 0 ∨ 0 ≤ z.toInt) with q | q
  · rw [(t.2 q).1, (t.2 q).2]
    have : (z.toInt - -(-z.toInt / 6) * 6) = -(-z.toInt % 6) := by omega
    rw [this]; apply Int.bmod_eq_of_le <;> omega
  · rw [(t.1 q).1, (t.1 q).2]
    have : (z.toInt - z.toInt / 6 * 6) = z.toInt % 6 := by omega
    rw [this]; apply Int.bmod_eq_of_le <;> omega
theorem xor6 (z : Int32) : 0 ≤ (z ^^^ (6 : Int32)) ↔ 0 ≤ z.toInt := by
  rw [zl_ge (k := 0) (z := 0) (by decide)]
  have h1 : ∀ x : Int32, 0 ≤ x.toInt ↔ x.toBitVec.msb = false := fun x => by
    rw [BitVec.msb_eq_toInt, Int32.toInt_toBitVec]; simp
  rw [h1, h1, Int32.toBitVec_xor, BitVec.msb_xor]
  rw [show (6 : Int32).toBitVec.msb = false by decide]
  simp
theorem fmod_ti (z : Int32) : (F_J9_floorMod_7cf53 z 6).toInt = z.toInt % 6 := by
  have r := rem6 z
  have t := tm6 z.toInt
  rw [F_J9_floorMod_7cf53]
  by_cases c1 : 0 ≤ (z ^^^ (6 : Int32))
  · rw [if_pos c1, r, (t.1 ((xor6 z).mp c1)).2]
  · rw [if_neg c1]
    have hz : z.toInt < 0 := by have := mt (xor6 z).mpr c1; omega
    rw [(t.2 hz).2] at r
    by_cases c2 : z - z / (6 : Int32) * (6 : Int32) = 0
    · rw [if_pos c2, r]
      have := (zl_eq (z := 0) (by decide)).mp c2
      rw [r] at this; omega
    · rw [if_neg c2, Int32.toInt_add, r, show (6 : Int32).toInt = 6 by decide]
      have n0 := mt (zl_eq (z := 0) (by decide)).mpr c2
      rw [r] at n0
      have : (-(-z.toInt % 6) + 6) = z.toInt % 6 := by omega
      rw [this]; apply Int.bmod_eq_of_le <;> omega
theorem fm_in (z : Int32) : vp_in (F_J9_floorMod_7cf53 z 6) 6 := by
  rw [vp_in_iff, fmod_ti]; omega
theorem z_wa {f : Nat → Int32} {x v : Int32} {j : Nat} (e : x = nI j) (hj : j < 2 ^ 31) (h : ∀ i, i < j → f i = 6 ∨ vp_in (f i) 6) (hv : v = 6 ∨ vp_in v 6) : ∀ i, i < j + 1 → upd f x.toNatClampNeg v i = 6 ∨ vp_in (upd f x.toNatClampNeg v i) 6 := by
  intro i hi
  have ex : x.toNatClampNeg = j := by rw [e]; exact nI_clamp hj
  rw [ex]
  by_cases hij : i = j
  · subst hij; rw [pk_us]; exact hv
  · rw [pk_un hij]; exact h i (by omega)
theorem z_sh {f : Nat → Int32} {x v : Int32} {j : Nat} (e : x = nI j) (hj : j < 2 ^ 31) (h : ∀ i, i < j → vp_in (f i) 6) (hv : vp_in v 6) : ∀ i, i < j + 1 → vp_in (upd f x.toNatClampNeg v i) 6 := by
  intro i hi
  have ex : x.toNatClampNeg = j := by rw [e]; exact nI_clamp hj
  rw [ex]
  by_cases hij : i = j
  · subst hij; rw [pk_us]; exact hv
  · rw [pk_un hij]; exact h i (by omega)
theorem z_atN {f : Nat → Int32} {P : Int32 → Prop} {x : Int32} {j : Nat} (e : x = nI j) (hj : j < 2 ^ 31) (h : P (f j)) : P (f x.toNatClampNeg) := by
  have ex : x.toNatClampNeg = j := by rw [e]; exact nI_clamp hj
  rw [ex]; exact h
theorem z_min9 {pn : Int32} {np : Nat} (hpn : pn = nI np) (hnp : np ≤ 9) : (if (9 : Int32) < pn then (9 : Int32) else pn) = nI np := by
  rw [if_neg, hpn]
  intro q
  have := z_jgt (n := 9) hpn (by omega) (by decide) q
  omega
-- X1_countWays
theorem i_X1_countWays_1 : ∀ w ∈ u_ws RX1 TX1 5, w ∈ wsX1_countWays := by decide +kernel
theorem m_X1_countWays_1 : Cond.fieldLink RX1 33 "WishPins$Layers" "pins" "I" ∈ wsX1_countWays := List.mem_of_getElem? (i := 1) rfl
theorem m_X1_countWays_2 : Cond.fieldLink RX1 15 "WishPins$Layers" "wanted" "[I" ∈ wsX1_countWays := List.mem_of_getElem? (i := 2) rfl
theorem m_X1_countWays_3 : Cond.fieldLink RX1 18 "WishPins$Layers" "spare" "[I" ∈ wsX1_countWays := List.mem_of_getElem? (i := 3) rfl
def F_X1_countWays_k6 (x1_6 : Int32) (x2_6 : Int32) (x3_6 : Int32) (sp_6 : Nat → Int32) : Int32 × (Nat → Int32) :=
  (x1_6, sp_6)
def F_X1_countWays_l6 (lp : Int32) (wa : Nat → Int32) (K_ : Int32 → Int32 → Int32 → (Nat → Int32) → Int32 × (Nat → Int32)) : Nat → Int32 → Int32 → Int32 → (Nat → Int32) → Int32 × (Nat → Int32)
  | 0, x1_6, x2_6, x3_6, sp_6 => K_ x1_6 x2_6 x3_6 sp_6
  | d6 + 1, x1_6, x2_6, x3_6, sp_6 => (if lp ≤ x3_6 then (K_ x1_6 x2_6 x3_6 sp_6) else (if (wa x3_6.toNatClampNeg) = (6 : Int32) then (F_X1_countWays_l6 lp wa K_ d6 (x1_6 * (x2_6 + (1 : Int32))) (x2_6 + (1 : Int32)) (x3_6 + (1 : Int32)) sp_6) else (if (1 : Int32) ≤ (sp_6 (wa x3_6.toNatClampNeg).toNatClampNeg) then (F_X1_countWays_l6 lp wa K_ d6 (x1_6 * (sp_6 (wa x3_6.toNatClampNeg).toNatClampNeg)) x2_6 (x3_6 + (1 : Int32)) (upd sp_6 (wa x3_6.toNatClampNeg).toNatClampNeg ((sp_6 (wa x3_6.toNatClampNeg).toNatClampNeg) - (1 : Int32)))) else ((0 : Int32), sp_6))))
def F_X1_countWays (lp : Int32) (wa : Nat → Int32) (sp : Nat → Int32) : Int32 × (Nat → Int32) :=
  (F_X1_countWays_l6 lp wa F_X1_countWays_k6 10 (1 : Int32) (0 : Int32) (0 : Int32) sp)
set_option maxHeartbeats 4000000 in
set_option maxRecDepth 100000 in
theorem c_X1_countWays (l : Launch) (D : va_G) (cI cO : ClassId) (h1 : Nat) (g1 : Nat) (g2 : Nat) (g3 : Nat) (lp : Int32) (lw : Int32) (wa : Nat → Int32) (sp : Nat → Int32) (np : Nat) (hlp : lp = nI np) (hnp : np ≤ 9) (hwa : ∀ i, i < np → wa i = 6 ∨ vp_in (wa i) 6) : zW l yX1_countWays wsX1_countWays ({ frames := 0, cells := 0, slots := 0, locals := 0 } : Room) D cI cO [.ref h1] [(h1, .inr (1, [.ref g1, .ref g2, .ref g3, .int lp, .int lw])), (g2, .inl (cI, 9, .inl wa)), (g3, .inl (cI, 6, .inl sp))] [(h1, .inr (1, [.ref g1, .ref g2, .ref g3, .int lp, .int lw])), (g2, .inl (cI, 9, .inl wa)), (g3, .inl (cI, 6, .inl ((F_X1_countWays lp wa sp).2)))] (some (.int ((F_X1_countWays lp wa sp).1))) := by
  refine zW_of (nL := 5) (cc := cX1_countWays) (ret := some .int) (lv := [(0, .ref h1)]) (by decide +kernel) rfl (Nat.le_of_ble_eq_true rfl) rfl (fun p e s m args below meth c C hr hlk => ?_)
  have hf := F_X1_countWays.eq_1 lp wa sp
  refine z_iconst (v := (1 : Int32)) C dX1_countWays_0 (by decide) ?_
  refine z_istore_n C [(0, .ref h1), (1, .int (1 : Int32))] dX1_countWays_1 rfl (by decide) [1, 0] rfl ?_
  refine z_iconst (v := (0 : Int32)) C dX1_countWays_2 (by decide) ?_
  refine z_istore_n C [(0, .ref h1), (1, .int (1 : Int32)), (2, .int (0 : Int32))] dX1_countWays_3 rfl (by decide) [1, 2, 0] rfl ?_
  refine z_iconst (v := (0 : Int32)) C dX1_countWays_4 (by decide) ?_
  refine z_istore_n C [(0, .ref h1), (1, .int (1 : Int32)), (2, .int (0 : Int32)), (3, .int (0 : Int32))] dX1_countWays_5 rfl (by decide) [1, 2, 3, 0] rfl ?_
  have X6 : ∀ (x1_6 : Int32) (x2_6 : Int32) (x3_6 : Int32) (sp_6 : Nat → Int32), F_X1_countWays lp wa sp = F_X1_countWays_k6 x1_6 x2_6 x3_6 sp_6 → zG p l e ({ frames := 0, cells := 0, slots := 0, locals := 0 } : Room) s m args below meth c D (zA [(h1, .inr (1, [.ref g1, .ref g2, .ref g3, .int lp, .int lw])), (g2, .inl (cI, 9, .inl wa)), (g3, .inl (cI, 6, .inl sp))]) (zXw (zA [(h1, .inr (1, [.ref g1, .ref g2, .ref g3, .int lp, .int lw])), (g2, .inl (cI, 9, .inl wa)), (g3, .inl (cI, 6, .inl sp))]) s.heap) 5 0 0 (MQ below (zQw D [(h1, .inr (1, [.ref g1, .ref g2, .ref g3, .int lp, .int lw])), (g2, .inl (cI, 9, .inl wa)), (g3, .inl (cI, 6, .inl ((F_X1_countWays lp wa sp).2)))] (zA [(h1, .inr (1, [.ref g1, .ref g2, .ref g3, .int lp, .int lw])), (g2, .inl (cI, 9, .inl wa)), (g3, .inl (cI, 6, .inl sp))]) (some (.int ((F_X1_countWays lp wa sp).1)))) args s 0 0 (zA [(h1, .inr (1, [.ref g1, .ref g2, .ref g3, .int lp, .int lw])), (g2, .inl (cI, 9, .inl wa)), (g3, .inl (cI, 6, .inl sp))])) 79 [(0, .ref h1), (1, .int x1_6), (2, .int x2_6), (3, .int x3_6)] [] [(h1, .inr (1, [.ref g1, .ref g2, .ref g3, .int lp, .int lw])), (g2, .inl (cI, 9, .inl wa)), (g3, .inl (cI, 6, .inl sp_6))] := by
    intro x1_6 x2_6 x3_6 sp_6 hf
    rw [F_X1_countWays_k6] at hf
    skip
    refine z_iload_n C dX1_countWays_79 rfl 1 rfl ?_
    exact z_iretW C hr hlk (by rw [hf]) (by rw [hf]) dX1_countWays_80
  have L6 : ∀ (d6 : Nat) (j : Nat) (x1_6 : Int32) (x2_6 : Int32) (x3_6 : Int32) (sp_6 : Nat → Int32) (e3 : x3_6 = nI j) (hj : j ≤ np) (hd : np < j + d6), F_X1_countWays lp wa sp = F_X1_countWays_l6 lp wa F_X1_countWays_k6 d6 x1_6 x2_6 x3_6 sp_6 → zG p l e ({ frames := 0, cells := 0, slots := 0, locals := 0 } : Room) s m args below meth c D (zA [(h1, .inr (1, [.ref g1, .ref g2, .ref g3, .int lp, .int lw])), (g2, .inl (cI, 9, .inl wa)), (g3, .inl (cI, 6, .inl sp))]) (zXw (zA [(h1, .inr (1, [.ref g1, .ref g2, .ref g3, .int lp, .int lw])), (g2, .inl (cI, 9, .inl wa)), (g3, .inl (cI, 6, .inl sp))]) s.heap) 5 0 0 (MQ below (zQw D [(h1, .inr (1, [.ref g1, .ref g2, .ref g3, .int lp, .int lw])), (g2, .inl (cI, 9, .inl wa)), (g3, .inl (cI, 6, .inl ((F_X1_countWays lp wa sp).2)))] (zA [(h1, .inr (1, [.ref g1, .ref g2, .ref g3, .int lp, .int lw])), (g2, .inl (cI, 9, .inl wa)), (g3, .inl (cI, 6, .inl sp))]) (some (.int ((F_X1_countWays lp wa sp).1)))) args s 0 0 (zA [(h1, .inr (1, [.ref g1, .ref g2, .ref g3, .int lp, .int lw])), (g2, .inl (cI, 9, .inl wa)), (g3, .inl (cI, 6, .inl sp))])) 6 [(0, .ref h1), (1, .int x1_6), (2, .int x2_6), (3, .int x3_6)] [] [(h1, .inr (1, [.ref g1, .ref g2, .ref g3, .int lp, .int lw])), (g2, .inl (cI, 9, .inl wa)), (g3, .inl (cI, 6, .inl sp_6))] := by
    intro d6
    induction d6 with
    | zero =>
      intro j x1_6 x2_6 x3_6 sp_6 e3 hj hd hf
      exfalso; omega
    | succ d6 ih6 =>
      intro j x1_6 x2_6 x3_6 sp_6 e3 hj hd hf
      rw [F_X1_countWays_l6] at hf
      skip
      refine z_iload_n C dX1_countWays_6 rfl 3 rfl ?_
      refine z_aload_n C dX1_countWays_7 rfl 0 rfl ?_
      refine z_get (T := TX1) (v := .int lp) C i_X1_countWays_1 0 rfl rfl 3 (by decide) m_X1_countWays_1 rfl rfl dX1_countWays_8 ?_
      refine z_icmp_ge (tgt := 79) C dX1_countWays_11 (by decide) (fun c11 => ?_) (fun c11 => ?_)
      · rw [if_pos c11] at hf
        exact X6 x1_6 x2_6 x3_6 sp_6  hf
      · rw [if_neg c11] at hf
        refine z_aload_n C dX1_countWays_14 rfl 0 rfl ?_
        refine z_get (T := TX1) (v := .ref g2) C i_X1_countWays_1 0 rfl rfl 1 (by decide) m_X1_countWays_2 rfl rfl dX1_countWays_15 ?_
        refine z_iload_n C dX1_countWays_18 rfl 3 rfl ?_
        refine z_ald C 1 rfl (z_ixN e3 (Nat.lt_of_lt_of_le (z_jlt e3 (by omega) (z_tiN hlp (by omega)) c11) hnp) (by decide)) dX1_countWays_19 ?_
        refine z_istore C [(0, .ref h1), (1, .int x1_6), (2, .int x2_6), (3, .int x3_6), (4, .int (wa x3_6.toNatClampNeg))] dX1_countWays_20 (by decide) [1, 2, 3, 4, 0] rfl ?_
        refine z_iload C dX1_countWays_22 4 rfl ?_
        refine z_bipush (v := (6 : Int32)) C dX1_countWays_24 (by decide) ?_
        refine z_icmp_ne (tgt := 39) C dX1_countWays_26 (by decide) (fun c26 => ?_) (fun c26 => ?_)
        · rw [if_neg c26] at hf
          refine z_aload_n C dX1_countWays_39 rfl 0 rfl ?_
          refine z_get (T := TX1) (v := .ref g3) C i_X1_countWays_1 0 rfl rfl 2 (by decide) m_X1_countWays_3 rfl rfl dX1_countWays_40 ?_
          refine z_iload C dX1_countWays_43 4 rfl ?_
          refine z_ald C 2 rfl ((z_atN (P := fun v => v = 6 ∨ vp_in v 6) e3 (by omega) (hwa j (z_jlt e3 (by omega) (z_tiN hlp (by omega)) c11))).resolve_left c26) dX1_countWays_45 ?_
          refine z_iconst (v := (1 : Int32)) C dX1_countWays_46 (by decide) ?_
          refine z_icmp_ge (tgt := 52) C dX1_countWays_47 (by decide) (fun c47 => ?_) (fun c47 => ?_)
          · rw [if_pos c47] at hf
            refine z_iload_n C dX1_countWays_52 rfl 1 rfl ?_
            refine z_aload_n C dX1_countWays_53 rfl 0 rfl ?_
            refine z_get (T := TX1) (v := .ref g3) C i_X1_countWays_1 0 rfl rfl 2 (by decide) m_X1_countWays_3 rfl rfl dX1_countWays_54 ?_
            refine z_iload C dX1_countWays_57 4 rfl ?_
            refine z_ald C 2 rfl ((z_atN (P := fun v => v = 6 ∨ vp_in v 6) e3 (by omega) (hwa j (z_jlt e3 (by omega) (z_tiN hlp (by omega)) c11))).resolve_left c26) dX1_countWays_59 ?_
            refine z_imul C dX1_countWays_60 ?_
            refine z_istore_n C [(0, .ref h1), (1, .int (x1_6 * (sp_6 (wa x3_6.toNatClampNeg).toNatClampNeg))), (2, .int x2_6), (3, .int x3_6), (4, .int (wa x3_6.toNatClampNeg))] dX1_countWays_61 rfl (by decide) [1, 0, 2, 3, 4] rfl ?_
            refine z_aload_n C dX1_countWays_62 rfl 0 rfl ?_
            refine z_get (T := TX1) (v := .ref g3) C i_X1_countWays_1 0 rfl rfl 2 (by decide) m_X1_countWays_3 rfl rfl dX1_countWays_63 ?_
            refine z_iload C dX1_countWays_66 4 rfl ?_
            refine z_dup2 C dX1_countWays_68 rfl rfl ?_
            refine z_ald C 2 rfl ((z_atN (P := fun v => v = 6 ∨ vp_in v 6) e3 (by omega) (hwa j (z_jlt e3 (by omega) (z_tiN hlp (by omega)) c11))).resolve_left c26) dX1_countWays_69 ?_
            refine z_iconst (v := (1 : Int32)) C dX1_countWays_70 (by decide) ?_
            refine z_isub C dX1_countWays_71 ?_
            refine z_ast C [(h1, .inr (1, [.ref g1, .ref g2, .ref g3, .int lp, .int lw])), (g2, .inl (cI, 9, .inl wa)), (g3, .inl (cI, 6, .inl (upd sp_6 (wa x3_6.toNatClampNeg).toNatClampNeg ((sp_6 (wa x3_6.toNatClampNeg).toNatClampNeg) - (1 : Int32)))))] 2 rfl ((z_atN (P := fun v => v = 6 ∨ vp_in v 6) e3 (by omega) (hwa j (z_jlt e3 (by omega) (z_tiN hlp (by omega)) c11))).resolve_left c26) dX1_countWays_72 rfl ?_
            refine z_iinc (v := (x3_6 + (1 : Int32))) C [(0, .ref h1), (1, .int (x1_6 * (sp_6 (wa x3_6.toNatClampNeg).toNatClampNeg))), (2, .int x2_6), (3, .int (x3_6 + (1 : Int32))), (4, .int (wa x3_6.toNatClampNeg))] dX1_countWays_73 3 rfl (by rfl) (by decide) [1, 2, 3, 0, 4] rfl ?_
            refine z_goto (tgt := 6) C dX1_countWays_76 (by decide) ?_
            refine z_ls [(0, .ref h1), (1, .int (x1_6 * (sp_6 (wa x3_6.toNatClampNeg).toNatClampNeg))), (2, .int x2_6), (3, .int (x3_6 + (1 : Int32)))] [0, 1, 2, 3] rfl ?_
            exact ih6 (j + 1) (x1_6 * (sp_6 (wa x3_6.toNatClampNeg).toNatClampNeg)) x2_6 (x3_6 + (1 : Int32)) (upd sp_6 (wa x3_6.toNatClampNeg).toNatClampNeg ((sp_6 (wa x3_6.toNatClampNeg).toNatClampNeg) - (1 : Int32))) (by rw [e3]; exact nI_1 j) (by have := z_jlt e3 (by omega) (z_tiN hlp (by omega)) c11; omega) (by omega) hf
          · rw [if_neg c47] at hf
            refine z_iconst (v := (0 : Int32)) C dX1_countWays_50 (by decide) ?_
            exact z_iretW C hr hlk (by rw [hf]) (by rw [hf]) dX1_countWays_51
        · rw [if_pos c26] at hf
          refine z_iinc (v := (x2_6 + (1 : Int32))) C [(0, .ref h1), (1, .int x1_6), (2, .int (x2_6 + (1 : Int32))), (3, .int x3_6), (4, .int (wa x3_6.toNatClampNeg))] dX1_countWays_29 2 rfl (by rfl) (by decide) [1, 2, 0, 3, 4] rfl ?_
          refine z_iload_n C dX1_countWays_32 rfl 1 rfl ?_
          refine z_iload_n C dX1_countWays_33 rfl 2 rfl ?_
          refine z_imul C dX1_countWays_34 ?_
          refine z_istore_n C [(0, .ref h1), (1, .int (x1_6 * (x2_6 + (1 : Int32)))), (2, .int (x2_6 + (1 : Int32))), (3, .int x3_6), (4, .int (wa x3_6.toNatClampNeg))] dX1_countWays_35 rfl (by decide) [1, 0, 2, 3, 4] rfl ?_
          refine z_goto (tgt := 73) C dX1_countWays_36 (by decide) ?_
          refine z_iinc (v := (x3_6 + (1 : Int32))) C [(0, .ref h1), (1, .int (x1_6 * (x2_6 + (1 : Int32)))), (2, .int (x2_6 + (1 : Int32))), (3, .int (x3_6 + (1 : Int32))), (4, .int (wa x3_6.toNatClampNeg))] dX1_countWays_73 3 rfl (by rfl) (by decide) [1, 2, 3, 0, 4] rfl ?_
          refine z_goto (tgt := 6) C dX1_countWays_76 (by decide) ?_
          refine z_ls [(0, .ref h1), (1, .int (x1_6 * (x2_6 + (1 : Int32)))), (2, .int (x2_6 + (1 : Int32))), (3, .int (x3_6 + (1 : Int32)))] [0, 1, 2, 3] rfl ?_
          exact ih6 (j + 1) (x1_6 * (x2_6 + (1 : Int32))) (x2_6 + (1 : Int32)) (x3_6 + (1 : Int32)) sp_6 (by rw [e3]; exact nI_1 j) (by have := z_jlt e3 (by omega) (z_tiN hlp (by omega)) c11; omega) (by omega) hf
  exact L6 10 0 (1 : Int32) (0 : Int32) (0 : Int32) sp nI_0.symm (Nat.zero_le _) (by omega) hf
-- X1_leastFor
theorem i_X1_leastFor_1 : ∀ w ∈ u_ws RX1 TX1 5, w ∈ wsX1_leastFor := by decide +kernel
theorem m_X1_leastFor_1 : Cond.fieldLink RX1 33 "WishPins$Layers" "pins" "I" ∈ wsX1_leastFor := List.mem_of_getElem? (i := 1) rfl
theorem m_X1_leastFor_2 : Cond.fieldLink RX1 9 "WishPins$Layers" "share" "[I" ∈ wsX1_leastFor := List.mem_of_getElem? (i := 2) rfl
theorem m_X1_leastFor_3 : Cond.fieldLink RX1 18 "WishPins$Layers" "spare" "[I" ∈ wsX1_leastFor := List.mem_of_getElem? (i := 3) rfl
def F_X1_leastFor_k2 (sp : Nat → Int32) (x3_2 : Int32) : Int32 × (Nat → Int32) :=
  ((-9 : Int32), sp)
def F_X1_leastFor_l2 (lp : Int32) (sh : Nat → Int32) (sp : Nat → Int32) (r : Int32) (t : Int32) (K_ : Int32 → Int32 × (Nat → Int32)) : Nat → Int32 → Int32 × (Nat → Int32)
  | 0, x3_2 => K_ x3_2
  | d2 + 1, x3_2 => (if lp ≤ x3_2 then (K_ x3_2) else (if (t &&& ((1 : Int32) <<< (x3_2 &&& 31))) = 0 then (if r = (sh x3_2.toNatClampNeg) then (x3_2, sp) else (if r = (6 : Int32) then (if (sp (sh x3_2.toNatClampNeg).toNatClampNeg) ≤ 0 then (F_X1_leastFor_l2 lp sh sp r t K_ d2 (x3_2 + (1 : Int32))) else (x3_2, (upd sp (sh x3_2.toNatClampNeg).toNatClampNeg ((sp (sh x3_2.toNatClampNeg).toNatClampNeg) - (1 : Int32))))) else (F_X1_leastFor_l2 lp sh sp r t K_ d2 (x3_2 + (1 : Int32))))) else (F_X1_leastFor_l2 lp sh sp r t K_ d2 (x3_2 + (1 : Int32)))))
def F_X1_leastFor (lp : Int32) (sh : Nat → Int32) (sp : Nat → Int32) (r : Int32) (t : Int32) : Int32 × (Nat → Int32) :=
  (F_X1_leastFor_l2 lp sh sp r t (F_X1_leastFor_k2 sp) 10 (0 : Int32))
set_option maxHeartbeats 4000000 in
set_option maxRecDepth 100000 in
theorem c_X1_leastFor (l : Launch) (D : va_G) (cI cO : ClassId) (h1 : Nat) (g1 : Nat) (g2 : Nat) (g3 : Nat) (lp : Int32) (lw : Int32) (sh : Nat → Int32) (sp : Nat → Int32) (r : Int32) (t : Int32) (np : Nat) (hlp : lp = nI np) (hnp : np ≤ 9) (hsh : ∀ i, i < np → vp_in (sh i) 6) : zW l yX1_leastFor wsX1_leastFor ({ frames := 0, cells := 0, slots := 0, locals := 0 } : Room) D cI cO [.ref h1, .int r, .int t] [(h1, .inr (1, [.ref g1, .ref g2, .ref g3, .int lp, .int lw])), (g1, .inl (cI, 9, .inl sh)), (g3, .inl (cI, 6, .inl sp))] [(h1, .inr (1, [.ref g1, .ref g2, .ref g3, .int lp, .int lw])), (g1, .inl (cI, 9, .inl sh)), (g3, .inl (cI, 6, .inl ((F_X1_leastFor lp sh sp r t).2)))] (some (.int ((F_X1_leastFor lp sh sp r t).1))) := by
  refine zW_of (nL := 6) (cc := cX1_leastFor) (ret := some .int) (lv := [(0, .ref h1), (1, .int r), (2, .int t)]) (by decide +kernel) rfl (Nat.le_of_ble_eq_true rfl) rfl (fun p e s m args below meth c C hr hlk => ?_)
  have hf := F_X1_leastFor.eq_1 lp sh sp r t
  refine z_iconst (v := (0 : Int32)) C dX1_leastFor_0 (by decide) ?_
  refine z_istore_n C [(0, .ref h1), (1, .int r), (2, .int t), (3, .int (0 : Int32))] dX1_leastFor_1 rfl (by decide) [1, 2, 3, 0] rfl ?_
  have X2 : ∀ (x3_2 : Int32), F_X1_leastFor lp sh sp r t = (F_X1_leastFor_k2 sp) x3_2 → zG p l e ({ frames := 0, cells := 0, slots := 0, locals := 0 } : Room) s m args below meth c D (zA [(h1, .inr (1, [.ref g1, .ref g2, .ref g3, .int lp, .int lw])), (g1, .inl (cI, 9, .inl sh)), (g3, .inl (cI, 6, .inl sp))]) (zXw (zA [(h1, .inr (1, [.ref g1, .ref g2, .ref g3, .int lp, .int lw])), (g1, .inl (cI, 9, .inl sh)), (g3, .inl (cI, 6, .inl sp))]) s.heap) 6 0 0 (MQ below (zQw D [(h1, .inr (1, [.ref g1, .ref g2, .ref g3, .int lp, .int lw])), (g1, .inl (cI, 9, .inl sh)), (g3, .inl (cI, 6, .inl ((F_X1_leastFor lp sh sp r t).2)))] (zA [(h1, .inr (1, [.ref g1, .ref g2, .ref g3, .int lp, .int lw])), (g1, .inl (cI, 9, .inl sh)), (g3, .inl (cI, 6, .inl sp))]) (some (.int ((F_X1_leastFor lp sh sp r t).1)))) args s 0 0 (zA [(h1, .inr (1, [.ref g1, .ref g2, .ref g3, .int lp, .int lw])), (g1, .inl (cI, 9, .inl sh)), (g3, .inl (cI, 6, .inl sp))])) 86 [(0, .ref h1), (1, .int r), (2, .int t), (3, .int x3_2)] [] [(h1, .inr (1, [.ref g1, .ref g2, .ref g3, .int lp, .int lw])), (g1, .inl (cI, 9, .inl sh)), (g3, .inl (cI, 6, .inl sp))] := by
    intro x3_2 hf
    rw [F_X1_leastFor_k2] at hf
    skip
    refine z_bipush (v := (-9 : Int32)) C dX1_leastFor_86 (by decide) ?_
    exact z_iretW C hr hlk (by rw [hf]) (by rw [hf]) dX1_leastFor_88
  have L2 : ∀ (d2 : Nat) (j : Nat) (x3_2 : Int32) (e3 : x3_2 = nI j) (hj : j ≤ np) (hd : np < j + d2), F_X1_leastFor lp sh sp r t = F_X1_leastFor_l2 lp sh sp r t (F_X1_leastFor_k2 sp) d2 x3_2 → zG p l e ({ frames := 0, cells := 0, slots := 0, locals := 0 } : Room) s m args below meth c D (zA [(h1, .inr (1, [.ref g1, .ref g2, .ref g3, .int lp, .int lw])), (g1, .inl (cI, 9, .inl sh)), (g3, .inl (cI, 6, .inl sp))]) (zXw (zA [(h1, .inr (1, [.ref g1, .ref g2, .ref g3, .int lp, .int lw])), (g1, .inl (cI, 9, .inl sh)), (g3, .inl (cI, 6, .inl sp))]) s.heap) 6 0 0 (MQ below (zQw D [(h1, .inr (1, [.ref g1, .ref g2, .ref g3, .int lp, .int lw])), (g1, .inl (cI, 9, .inl sh)), (g3, .inl (cI, 6, .inl ((F_X1_leastFor lp sh sp r t).2)))] (zA [(h1, .inr (1, [.ref g1, .ref g2, .ref g3, .int lp, .int lw])), (g1, .inl (cI, 9, .inl sh)), (g3, .inl (cI, 6, .inl sp))]) (some (.int ((F_X1_leastFor lp sh sp r t).1)))) args s 0 0 (zA [(h1, .inr (1, [.ref g1, .ref g2, .ref g3, .int lp, .int lw])), (g1, .inl (cI, 9, .inl sh)), (g3, .inl (cI, 6, .inl sp))])) 2 [(0, .ref h1), (1, .int r), (2, .int t), (3, .int x3_2)] [] [(h1, .inr (1, [.ref g1, .ref g2, .ref g3, .int lp, .int lw])), (g1, .inl (cI, 9, .inl sh)), (g3, .inl (cI, 6, .inl sp))] := by
    intro d2
    induction d2 with
    | zero =>
      intro j x3_2 e3 hj hd hf
      exfalso; omega
    | succ d2 ih2 =>
      intro j x3_2 e3 hj hd hf
      rw [F_X1_leastFor_l2] at hf
      skip
      refine z_iload_n C dX1_leastFor_2 rfl 3 rfl ?_
      refine z_aload_n C dX1_leastFor_3 rfl 0 rfl ?_
      refine z_get (T := TX1) (v := .int lp) C i_X1_leastFor_1 0 rfl rfl 3 (by decide) m_X1_leastFor_1 rfl rfl dX1_leastFor_4 ?_
      refine z_icmp_ge (tgt := 86) C dX1_leastFor_7 (by decide) (fun c7 => ?_) (fun c7 => ?_)
      · rw [if_pos c7] at hf
        exact X2 x3_2  hf
      · rw [if_neg c7] at hf
        refine z_aload_n C dX1_leastFor_10 rfl 0 rfl ?_
        refine z_get (T := TX1) (v := .ref g1) C i_X1_leastFor_1 0 rfl rfl 0 (by decide) m_X1_leastFor_2 rfl rfl dX1_leastFor_11 ?_
        refine z_iload_n C dX1_leastFor_14 rfl 3 rfl ?_
        refine z_ald C 1 rfl (z_ixN e3 (Nat.lt_of_lt_of_le (z_jlt e3 (by omega) (z_tiN hlp (by omega)) c7) hnp) (by decide)) dX1_leastFor_15 ?_
        refine z_istore C [(0, .ref h1), (1, .int r), (2, .int t), (3, .int x3_2), (4, .int (sh x3_2.toNatClampNeg))] dX1_leastFor_16 (by decide) [1, 2, 3, 4, 0] rfl ?_
        refine z_iload_n C dX1_leastFor_18 rfl 2 rfl ?_
        refine z_iconst (v := (1 : Int32)) C dX1_leastFor_19 (by decide) ?_
        refine z_iload_n C dX1_leastFor_20 rfl 3 rfl ?_
        refine z_ishl C dX1_leastFor_21 ?_
        refine z_iand C dX1_leastFor_22 ?_
        refine z_if_ne (tgt := 30) C dX1_leastFor_23 (by decide) (fun c23 => ?_) (fun c23 => ?_)
        · rw [if_neg c23] at hf
          refine z_iconst (v := (0 : Int32)) C dX1_leastFor_30 (by decide) ?_
          refine z_istore C [(0, .ref h1), (1, .int r), (2, .int t), (3, .int x3_2), (4, .int (sh x3_2.toNatClampNeg)), (5, .int (0 : Int32))] dX1_leastFor_31 (by decide) [1, 2, 3, 4, 5, 0] rfl ?_
          refine z_iload C dX1_leastFor_33 5 rfl ?_
          refine z_if_eq (tgt := 46) C dX1_leastFor_35 (by decide) (fun _ => ?_) (fun h9 => absurd h9 (by decide))
          refine z_iload C dX1_leastFor_46 5 rfl ?_
          refine z_if_eq (tgt := 80) C dX1_leastFor_48 (by decide) (fun _ => ?_) (fun h9 => absurd h9 (by decide))
          refine z_iinc (v := (x3_2 + (1 : Int32))) C [(0, .ref h1), (1, .int r), (2, .int t), (3, .int (x3_2 + (1 : Int32))), (4, .int (sh x3_2.toNatClampNeg)), (5, .int (0 : Int32))] dX1_leastFor_80 3 rfl (by rfl) (by decide) [1, 2, 3, 0, 4, 5] rfl ?_
          refine z_goto (tgt := 2) C dX1_leastFor_83 (by decide) ?_
          refine z_ls [(0, .ref h1), (1, .int r), (2, .int t), (3, .int (x3_2 + (1 : Int32)))] [0, 1, 2, 3] rfl ?_
          exact ih2 (j + 1) (x3_2 + (1 : Int32)) (by rw [e3]; exact nI_1 j) (by have := z_jlt e3 (by omega) (z_tiN hlp (by omega)) c7; omega) (by omega) hf
        · rw [if_pos c23] at hf
          refine z_iconst (v := (1 : Int32)) C dX1_leastFor_26 (by decide) ?_
          refine z_goto (tgt := 31) C dX1_leastFor_27 (by decide) ?_
          refine z_istore C [(0, .ref h1), (1, .int r), (2, .int t), (3, .int x3_2), (4, .int (sh x3_2.toNatClampNeg)), (5, .int (1 : Int32))] dX1_leastFor_31 (by decide) [1, 2, 3, 4, 5, 0] rfl ?_
          refine z_iload C dX1_leastFor_33 5 rfl ?_
          refine z_if_eq (tgt := 46) C dX1_leastFor_35 (by decide) (fun h9 => absurd h9 (by decide)) (fun _ => ?_)
          refine z_iload_n C dX1_leastFor_38 rfl 1 rfl ?_
          refine z_iload C dX1_leastFor_39 4 rfl ?_
          refine z_icmp_ne (tgt := 46) C dX1_leastFor_41 (by decide) (fun c41 => ?_) (fun c41 => ?_)
          · rw [if_neg c41] at hf
            refine z_iload C dX1_leastFor_46 5 rfl ?_
            refine z_if_eq (tgt := 80) C dX1_leastFor_48 (by decide) (fun h9 => absurd h9 (by decide)) (fun _ => ?_)
            refine z_iload_n C dX1_leastFor_51 rfl 1 rfl ?_
            refine z_bipush (v := (6 : Int32)) C dX1_leastFor_52 (by decide) ?_
            refine z_icmp_ne (tgt := 80) C dX1_leastFor_54 (by decide) (fun c54 => ?_) (fun c54 => ?_)
            · rw [if_neg c54] at hf
              refine z_iinc (v := (x3_2 + (1 : Int32))) C [(0, .ref h1), (1, .int r), (2, .int t), (3, .int (x3_2 + (1 : Int32))), (4, .int (sh x3_2.toNatClampNeg)), (5, .int (1 : Int32))] dX1_leastFor_80 3 rfl (by rfl) (by decide) [1, 2, 3, 0, 4, 5] rfl ?_
              refine z_goto (tgt := 2) C dX1_leastFor_83 (by decide) ?_
              refine z_ls [(0, .ref h1), (1, .int r), (2, .int t), (3, .int (x3_2 + (1 : Int32)))] [0, 1, 2, 3] rfl ?_
              exact ih2 (j + 1) (x3_2 + (1 : Int32)) (by rw [e3]; exact nI_1 j) (by have := z_jlt e3 (by omega) (z_tiN hlp (by omega)) c7; omega) (by omega) hf
            · rw [if_pos c54] at hf
              refine z_aload_n C dX1_leastFor_57 rfl 0 rfl ?_
              refine z_get (T := TX1) (v := .ref g3) C i_X1_leastFor_1 0 rfl rfl 2 (by decide) m_X1_leastFor_3 rfl rfl dX1_leastFor_58 ?_
              refine z_iload C dX1_leastFor_61 4 rfl ?_
              refine z_ald C 2 rfl (z_atN (P := fun v => vp_in v 6) e3 (by omega) (hsh j (z_jlt e3 (by omega) (z_tiN hlp (by omega)) c7))) dX1_leastFor_63 ?_
              refine z_if_le (tgt := 80) C dX1_leastFor_64 (by decide) (fun c64 => ?_) (fun c64 => ?_)
              · rw [if_pos c64] at hf
                refine z_iinc (v := (x3_2 + (1 : Int32))) C [(0, .ref h1), (1, .int r), (2, .int t), (3, .int (x3_2 + (1 : Int32))), (4, .int (sh x3_2.toNatClampNeg)), (5, .int (1 : Int32))] dX1_leastFor_80 3 rfl (by rfl) (by decide) [1, 2, 3, 0, 4, 5] rfl ?_
                refine z_goto (tgt := 2) C dX1_leastFor_83 (by decide) ?_
                refine z_ls [(0, .ref h1), (1, .int r), (2, .int t), (3, .int (x3_2 + (1 : Int32)))] [0, 1, 2, 3] rfl ?_
                exact ih2 (j + 1) (x3_2 + (1 : Int32)) (by rw [e3]; exact nI_1 j) (by have := z_jlt e3 (by omega) (z_tiN hlp (by omega)) c7; omega) (by omega) hf
              · rw [if_neg c64] at hf
                refine z_aload_n C dX1_leastFor_67 rfl 0 rfl ?_
                refine z_get (T := TX1) (v := .ref g3) C i_X1_leastFor_1 0 rfl rfl 2 (by decide) m_X1_leastFor_3 rfl rfl dX1_leastFor_68 ?_
                refine z_iload C dX1_leastFor_71 4 rfl ?_
                refine z_dup2 C dX1_leastFor_73 rfl rfl ?_
                refine z_ald C 2 rfl (z_atN (P := fun v => vp_in v 6) e3 (by omega) (hsh j (z_jlt e3 (by omega) (z_tiN hlp (by omega)) c7))) dX1_leastFor_74 ?_
                refine z_iconst (v := (1 : Int32)) C dX1_leastFor_75 (by decide) ?_
                refine z_isub C dX1_leastFor_76 ?_
                refine z_ast C [(h1, .inr (1, [.ref g1, .ref g2, .ref g3, .int lp, .int lw])), (g1, .inl (cI, 9, .inl sh)), (g3, .inl (cI, 6, .inl (upd sp (sh x3_2.toNatClampNeg).toNatClampNeg ((sp (sh x3_2.toNatClampNeg).toNatClampNeg) - (1 : Int32)))))] 2 rfl (z_atN (P := fun v => vp_in v 6) e3 (by omega) (hsh j (z_jlt e3 (by omega) (z_tiN hlp (by omega)) c7))) dX1_leastFor_77 rfl ?_
                refine z_iload_n C dX1_leastFor_78 rfl 3 rfl ?_
                exact z_iretW C hr hlk (by rw [hf]) (by rw [hf]) dX1_leastFor_79
          · rw [if_pos c41] at hf
            refine z_iload_n C dX1_leastFor_44 rfl 3 rfl ?_
            exact z_iretW C hr hlk (by rw [hf]) (by rw [hf]) dX1_leastFor_45
  exact L2 10 0 (0 : Int32) nI_0.symm (Nat.zero_le _) (by omega) hf
-- X1_firstAt
theorem i_X1_firstAt_1 : ∀ w ∈ u_ws RX1 TX1 5, w ∈ wsX1_firstAt := by decide +kernel
theorem m_X1_firstAt_1 : Cond.fieldLink RX1 59 "WishPins$Layers" "ways" "I" ∈ wsX1_firstAt := List.mem_of_getElem? (i := 1) rfl
theorem m_X1_firstAt_2 : Cond.fieldLink RX1 33 "WishPins$Layers" "pins" "I" ∈ wsX1_firstAt := List.mem_of_getElem? (i := 2) rfl
theorem m_X1_firstAt_3 : Cond.fieldLink RX1 15 "WishPins$Layers" "wanted" "[I" ∈ wsX1_firstAt := List.mem_of_getElem? (i := 3) rfl
def F_X1_firstAt_k14 (x2_14 : Int32) (x3_14 : Int32) (sp_14 : Nat → Int32) : Int32 × (Nat → Int32) :=
  ((-9 : Int32), sp_14)
def F_X1_firstAt_l14 (lp : Int32) (sh : Nat → Int32) (wa : Nat → Int32) (k : Int32) (K_ : Int32 → Int32 → (Nat → Int32) → Int32 × (Nat → Int32)) : Nat → Int32 → Int32 → (Nat → Int32) → Int32 × (Nat → Int32)
  | 0, x2_14, x3_14, sp_14 => K_ x2_14 x3_14 sp_14
  | d14 + 1, x2_14, x3_14, sp_14 => (if lp ≤ x3_14 then (K_ x2_14 x3_14 sp_14) else (if x3_14 = k then ((F_X1_leastFor lp sh sp_14 (wa x3_14.toNatClampNeg) x2_14).1, (F_X1_leastFor lp sh sp_14 (wa x3_14.toNatClampNeg) x2_14).2) else (if (F_X1_leastFor lp sh sp_14 (wa x3_14.toNatClampNeg) x2_14).1 = (-9 : Int32) then ((F_X1_leastFor lp sh sp_14 (wa x3_14.toNatClampNeg) x2_14).1, (F_X1_leastFor lp sh sp_14 (wa x3_14.toNatClampNeg) x2_14).2) else (F_X1_firstAt_l14 lp sh wa k K_ d14 (x2_14 ||| ((1 : Int32) <<< ((F_X1_leastFor lp sh sp_14 (wa x3_14.toNatClampNeg) x2_14).1 &&& 31))) (x3_14 + (1 : Int32)) (F_X1_leastFor lp sh sp_14 (wa x3_14.toNatClampNeg) x2_14).2))))
def F_X1_firstAt (lp : Int32) (lw : Int32) (sh : Nat → Int32) (wa : Nat → Int32) (sp : Nat → Int32) (k : Int32) : Int32 × (Nat → Int32) :=
  (if lw = 0 then ((-9 : Int32), sp) else (F_X1_firstAt_l14 lp sh wa k F_X1_firstAt_k14 10 (0 : Int32) (0 : Int32) sp))
set_option maxHeartbeats 4000000 in
set_option maxRecDepth 100000 in
theorem c_X1_firstAt (l : Launch) (D : va_G) (cI cO : ClassId) (h1 : Nat) (g1 : Nat) (g2 : Nat) (g3 : Nat) (lp : Int32) (lw : Int32) (sh : Nat → Int32) (wa : Nat → Int32) (sp : Nat → Int32) (k : Int32) (np : Nat) (hlp : lp = nI np) (hnp : np ≤ 9) (hsh : ∀ i, i < np → vp_in (sh i) 6) : zW l yX1_firstAt wsX1_firstAt ({ frames := 1, cells := 0, slots := 0, locals := 25 } : Room) D cI cO [.ref h1, .int k] [(h1, .inr (1, [.ref g1, .ref g2, .ref g3, .int lp, .int lw])), (g1, .inl (cI, 9, .inl sh)), (g2, .inl (cI, 9, .inl wa)), (g3, .inl (cI, 6, .inl sp))] [(h1, .inr (1, [.ref g1, .ref g2, .ref g3, .int lp, .int lw])), (g1, .inl (cI, 9, .inl sh)), (g2, .inl (cI, 9, .inl wa)), (g3, .inl (cI, 6, .inl ((F_X1_firstAt lp lw sh wa sp k).2)))] (some (.int ((F_X1_firstAt lp lw sh wa sp k).1))) := by
  refine zW_of (nL := 5) (cc := cX1_firstAt) (ret := some .int) (lv := [(0, .ref h1), (1, .int k)]) (by decide +kernel) rfl (Nat.le_of_ble_eq_true rfl) rfl (fun p e s m args below meth c C hr hlk => ?_)
  have hf := F_X1_firstAt.eq_1 lp lw sh wa sp k
  refine z_aload_n C dX1_firstAt_0 rfl 0 rfl ?_
  refine z_get (T := TX1) (v := .int lw) C i_X1_firstAt_1 0 rfl rfl 4 (by decide) m_X1_firstAt_1 rfl rfl dX1_firstAt_1 ?_
  refine z_if_ne (tgt := 10) C dX1_firstAt_4 (by decide) (fun c4 => ?_) (fun c4 => ?_)
  · rw [if_neg c4] at hf
    refine z_iconst (v := (0 : Int32)) C dX1_firstAt_10 (by decide) ?_
    refine z_istore_n C [(0, .ref h1), (1, .int k), (2, .int (0 : Int32))] dX1_firstAt_11 rfl (by decide) [1, 2, 0] rfl ?_
    refine z_iconst (v := (0 : Int32)) C dX1_firstAt_12 (by decide) ?_
    refine z_istore_n C [(0, .ref h1), (1, .int k), (2, .int (0 : Int32)), (3, .int (0 : Int32))] dX1_firstAt_13 rfl (by decide) [1, 2, 3, 0] rfl ?_
    have X14 : ∀ (x2_14 : Int32) (x3_14 : Int32) (sp_14 : Nat → Int32), F_X1_firstAt lp lw sh wa sp k = F_X1_firstAt_k14 x2_14 x3_14 sp_14 → zG p l e ({ frames := 1, cells := 0, slots := 0, locals := 25 } : Room) s m args below meth c D (zA [(h1, .inr (1, [.ref g1, .ref g2, .ref g3, .int lp, .int lw])), (g1, .inl (cI, 9, .inl sh)), (g2, .inl (cI, 9, .inl wa)), (g3, .inl (cI, 6, .inl sp))]) (zXw (zA [(h1, .inr (1, [.ref g1, .ref g2, .ref g3, .int lp, .int lw])), (g1, .inl (cI, 9, .inl sh)), (g2, .inl (cI, 9, .inl wa)), (g3, .inl (cI, 6, .inl sp))]) s.heap) 5 0 0 (MQ below (zQw D [(h1, .inr (1, [.ref g1, .ref g2, .ref g3, .int lp, .int lw])), (g1, .inl (cI, 9, .inl sh)), (g2, .inl (cI, 9, .inl wa)), (g3, .inl (cI, 6, .inl ((F_X1_firstAt lp lw sh wa sp k).2)))] (zA [(h1, .inr (1, [.ref g1, .ref g2, .ref g3, .int lp, .int lw])), (g1, .inl (cI, 9, .inl sh)), (g2, .inl (cI, 9, .inl wa)), (g3, .inl (cI, 6, .inl sp))]) (some (.int ((F_X1_firstAt lp lw sh wa sp k).1)))) args s 0 0 (zA [(h1, .inr (1, [.ref g1, .ref g2, .ref g3, .int lp, .int lw])), (g1, .inl (cI, 9, .inl sh)), (g2, .inl (cI, 9, .inl wa)), (g3, .inl (cI, 6, .inl sp))])) 63 [(0, .ref h1), (1, .int k), (2, .int x2_14), (3, .int x3_14)] [] [(h1, .inr (1, [.ref g1, .ref g2, .ref g3, .int lp, .int lw])), (g1, .inl (cI, 9, .inl sh)), (g2, .inl (cI, 9, .inl wa)), (g3, .inl (cI, 6, .inl sp_14))] := by
      intro x2_14 x3_14 sp_14 hf
      rw [F_X1_firstAt_k14] at hf
      skip
      refine z_bipush (v := (-9 : Int32)) C dX1_firstAt_63 (by decide) ?_
      exact z_iretW C hr hlk (by rw [hf]) (by rw [hf]) dX1_firstAt_65
    have L14 : ∀ (d14 : Nat) (j : Nat) (x2_14 : Int32) (x3_14 : Int32) (sp_14 : Nat → Int32) (e3 : x3_14 = nI j) (hj : j ≤ np) (hd : np < j + d14), F_X1_firstAt lp lw sh wa sp k = F_X1_firstAt_l14 lp sh wa k F_X1_firstAt_k14 d14 x2_14 x3_14 sp_14 → zG p l e ({ frames := 1, cells := 0, slots := 0, locals := 25 } : Room) s m args below meth c D (zA [(h1, .inr (1, [.ref g1, .ref g2, .ref g3, .int lp, .int lw])), (g1, .inl (cI, 9, .inl sh)), (g2, .inl (cI, 9, .inl wa)), (g3, .inl (cI, 6, .inl sp))]) (zXw (zA [(h1, .inr (1, [.ref g1, .ref g2, .ref g3, .int lp, .int lw])), (g1, .inl (cI, 9, .inl sh)), (g2, .inl (cI, 9, .inl wa)), (g3, .inl (cI, 6, .inl sp))]) s.heap) 5 0 0 (MQ below (zQw D [(h1, .inr (1, [.ref g1, .ref g2, .ref g3, .int lp, .int lw])), (g1, .inl (cI, 9, .inl sh)), (g2, .inl (cI, 9, .inl wa)), (g3, .inl (cI, 6, .inl ((F_X1_firstAt lp lw sh wa sp k).2)))] (zA [(h1, .inr (1, [.ref g1, .ref g2, .ref g3, .int lp, .int lw])), (g1, .inl (cI, 9, .inl sh)), (g2, .inl (cI, 9, .inl wa)), (g3, .inl (cI, 6, .inl sp))]) (some (.int ((F_X1_firstAt lp lw sh wa sp k).1)))) args s 0 0 (zA [(h1, .inr (1, [.ref g1, .ref g2, .ref g3, .int lp, .int lw])), (g1, .inl (cI, 9, .inl sh)), (g2, .inl (cI, 9, .inl wa)), (g3, .inl (cI, 6, .inl sp))])) 14 [(0, .ref h1), (1, .int k), (2, .int x2_14), (3, .int x3_14)] [] [(h1, .inr (1, [.ref g1, .ref g2, .ref g3, .int lp, .int lw])), (g1, .inl (cI, 9, .inl sh)), (g2, .inl (cI, 9, .inl wa)), (g3, .inl (cI, 6, .inl sp_14))] := by
      intro d14
      induction d14 with
      | zero =>
        intro j x2_14 x3_14 sp_14 e3 hj hd hf
        exfalso; omega
      | succ d14 ih14 =>
        intro j x2_14 x3_14 sp_14 e3 hj hd hf
        rw [F_X1_firstAt_l14] at hf
        skip
        refine z_iload_n C dX1_firstAt_14 rfl 3 rfl ?_
        refine z_aload_n C dX1_firstAt_15 rfl 0 rfl ?_
        refine z_get (T := TX1) (v := .int lp) C i_X1_firstAt_1 0 rfl rfl 3 (by decide) m_X1_firstAt_2 rfl rfl dX1_firstAt_16 ?_
        refine z_icmp_ge (tgt := 63) C dX1_firstAt_19 (by decide) (fun c19 => ?_) (fun c19 => ?_)
        · rw [if_pos c19] at hf
          exact X14 x2_14 x3_14 sp_14  hf
        · rw [if_neg c19] at hf
          refine z_aload_n C dX1_firstAt_22 rfl 0 rfl ?_
          refine z_aload_n C dX1_firstAt_23 rfl 0 rfl ?_
          refine z_get (T := TX1) (v := .ref g2) C i_X1_firstAt_1 0 rfl rfl 1 (by decide) m_X1_firstAt_3 rfl rfl dX1_firstAt_24 ?_
          refine z_iload_n C dX1_firstAt_27 rfl 3 rfl ?_
          refine z_ald C 2 rfl (z_ixN e3 (Nat.lt_of_lt_of_le (z_jlt e3 (by omega) (z_tiN hlp (by omega)) c19) hnp) (by decide)) dX1_firstAt_28 ?_
          refine z_iload_n C dX1_firstAt_29 rfl 2 rfl ?_
          refine z_cVW (As := [.int (wa x3_14.toNatClampNeg), .int x2_14]) C (c_X1_leastFor l D cI cO h1 g1 g2 g3 lp lw sh sp_14 (wa x3_14.toNatClampNeg) x2_14 np hlp hnp hsh) (cwV 2 C.2.2.2.2.1 gX1_firstAt_X1_leastFor rfl rfl rfl hdV_X1_leastFor ⟨Nat.le_of_ble_eq_true rfl, Nat.le_of_ble_eq_true rfl⟩) [(h1, .inr (1, [.ref g1, .ref g2, .ref g3, .int lp, .int lw])), (g1, .inl (cI, 9, .inl sh)), (g2, .inl (cI, 9, .inl wa)), (g3, .inl (cI, 6, .inl ((F_X1_leastFor lp sh sp_14 (wa x3_14.toNatClampNeg) x2_14).2)))] [0, 1, 3] rfl rfl (Eq.refl [h1, g1, g3]) rfl 0 rfl rfl rfl _ rfl (Nat.le_of_ble_eq_true rfl) ⟨Nat.zero_le _, Nat.zero_le _⟩ dX1_firstAt_30 ?_
          generalize hu30 : (F_X1_leastFor lp sh sp_14 (wa x3_14.toNatClampNeg) x2_14) = u30 at hf ⊢
          refine z_istore C [(0, .ref h1), (1, .int k), (2, .int x2_14), (3, .int x3_14), (4, .int u30.1)] dX1_firstAt_33 (by decide) [1, 2, 3, 4, 0] rfl ?_
          refine z_iload_n C dX1_firstAt_35 rfl 3 rfl ?_
          refine z_iload_n C dX1_firstAt_36 rfl 1 rfl ?_
          refine z_icmp_eq (tgt := 47) C dX1_firstAt_37 (by decide) (fun c37 => ?_) (fun c37 => ?_)
          · rw [if_pos c37] at hf
            refine z_iload C dX1_firstAt_47 4 rfl ?_
            exact z_iretW C hr hlk (by rw [hf]) (by rw [hf]) dX1_firstAt_49
          · rw [if_neg c37] at hf
            refine z_iload C dX1_firstAt_40 4 rfl ?_
            refine z_bipush (v := (-9 : Int32)) C dX1_firstAt_42 (by decide) ?_
            refine z_icmp_ne (tgt := 50) C dX1_firstAt_44 (by decide) (fun c44 => ?_) (fun c44 => ?_)
            · rw [if_neg c44] at hf
              have b44 := c44
              rw [← hu30] at c44
              refine z_iload_n C dX1_firstAt_50 rfl 2 rfl ?_
              refine z_iconst (v := (1 : Int32)) C dX1_firstAt_51 (by decide) ?_
              refine z_iload C dX1_firstAt_52 4 rfl ?_
              refine z_ishl C dX1_firstAt_54 ?_
              refine z_ior C dX1_firstAt_55 ?_
              refine z_istore_n C [(0, .ref h1), (1, .int k), (2, .int (x2_14 ||| ((1 : Int32) <<< (u30.1 &&& 31)))), (3, .int x3_14), (4, .int u30.1)] dX1_firstAt_56 rfl (by decide) [1, 2, 0, 3, 4] rfl ?_
              refine z_iinc (v := (x3_14 + (1 : Int32))) C [(0, .ref h1), (1, .int k), (2, .int (x2_14 ||| ((1 : Int32) <<< (u30.1 &&& 31)))), (3, .int (x3_14 + (1 : Int32))), (4, .int u30.1)] dX1_firstAt_57 3 rfl (by rfl) (by decide) [1, 2, 3, 0, 4] rfl ?_
              refine z_goto (tgt := 14) C dX1_firstAt_60 (by decide) ?_
              refine z_ls [(0, .ref h1), (1, .int k), (2, .int (x2_14 ||| ((1 : Int32) <<< (u30.1 &&& 31)))), (3, .int (x3_14 + (1 : Int32)))] [0, 1, 2, 3] rfl ?_
              exact ih14 (j + 1) (x2_14 ||| ((1 : Int32) <<< (u30.1 &&& 31))) (x3_14 + (1 : Int32)) u30.2 (by subst hu30; exact (by rw [e3]; exact nI_1 j)) (by subst hu30; exact (by have := z_jlt e3 (by omega) (z_tiN hlp (by omega)) c19; omega)) (by omega) hf
            · rw [if_pos c44] at hf
              have b44 := c44
              rw [← hu30] at c44
              refine z_iload C dX1_firstAt_47 4 rfl ?_
              exact z_iretW C hr hlk (by rw [hf]) (by rw [hf]) dX1_firstAt_49
    exact L14 10 0 (0 : Int32) (0 : Int32) sp nI_0.symm (Nat.zero_le _) (by omega) hf
  · rw [if_pos c4] at hf
    refine z_bipush (v := (-9 : Int32)) C dX1_firstAt_7 (by decide) ?_
    exact z_iretW C hr hlk (by rw [hf]) (by rw [hf]) dX1_firstAt_9
-- X1_ask
theorem i_X1_ask_4 : ∀ w ∈ u_ws RX4 TX4 7, w ∈ wsX1_ask := by decide +kernel
theorem m_X1_ask_1 : Cond.fieldLink RX1 21 "WishPins$Well" "pins" "I" ∈ wsX1_ask := List.mem_of_getElem? (i := 1) rfl
theorem m_X1_ask_2 : Cond.methodLink RX1 27 Lib.Math.min.name ∈ wsX1_ask := List.mem_of_getElem? (i := 2) rfl
theorem m_X1_ask_3 : Cond.static Lib.Math.min.name ∈ wsX1_ask := List.mem_of_getElem? (i := 3) rfl
theorem m_X1_ask_4 : Cond.initialized "java/lang/Math" ∈ wsX1_ask := List.mem_of_getElem? (i := 4) rfl
theorem m_X1_ask_5 : Cond.code Lib.Math.min.name Lib.Math.min.code 2 (some .int) ∈ wsX1_ask := List.mem_of_getElem? (i := 5) rfl
theorem i_X1_ask_1 : ∀ w ∈ u_ws RX1 TX1 5, w ∈ wsX1_ask := by decide +kernel
theorem m_X1_ask_6 : Cond.fieldLink RX1 33 "WishPins$Layers" "pins" "I" ∈ wsX1_ask := List.mem_of_getElem? (i := 6) rfl
theorem m_X1_ask_12 : Cond.fieldLink RX1 59 "WishPins$Layers" "ways" "I" ∈ wsX1_ask := List.mem_of_getElem? (i := 12) rfl
theorem m_X1_ask_8 : Cond.fieldLink RX1 9 "WishPins$Layers" "share" "[I" ∈ wsX1_ask := List.mem_of_getElem? (i := 8) rfl
theorem m_X1_ask_9 : Cond.fieldLink RX1 40 "WishPins$Well" "slope" "I" ∈ wsX1_ask := List.mem_of_getElem? (i := 9) rfl
theorem m_X1_ask_10 : Cond.fieldLink RX1 15 "WishPins$Layers" "wanted" "[I" ∈ wsX1_ask := List.mem_of_getElem? (i := 10) rfl
theorem m_X1_ask_11 : Cond.fieldLink RX1 49 "WishPins$Well" "drift" "I" ∈ wsX1_ask := List.mem_of_getElem? (i := 11) rfl
theorem m_X1_ask_7 : Cond.fieldLink RX1 18 "WishPins$Layers" "spare" "[I" ∈ wsX1_ask := List.mem_of_getElem? (i := 7) rfl
def F_X1_ask_k40 (pn : Int32) (x4_40 : Int32) (sh_40 : Nat → Int32) (wa_40 : Nat → Int32) (sp_40 : Nat → Int32) : Int32 × Int32 × (Nat → Int32) × (Nat → Int32) × (Nat → Int32) :=
  ((if (9 : Int32) < pn then (9 : Int32) else pn), (F_X1_countWays (if (9 : Int32) < pn then (9 : Int32) else pn) wa_40 sp_40).1, sh_40, wa_40, (F_X1_countWays (if (9 : Int32) < pn then (9 : Int32) else pn) wa_40 sp_40).2)
def F_X1_ask_l40 (pn : Int32) (sl : Int32) (dr : Int32) (kd : Nat → Int32) (bd : Nat → Int32) (yr : Nat → Int32) (lg : Int32) (cl : Nat → Int32) (ti : Int32) (K_ : Int32 → (Nat → Int32) → (Nat → Int32) → (Nat → Int32) → Int32 × Int32 × (Nat → Int32) × (Nat → Int32) × (Nat → Int32)) : Nat → Int32 → (Nat → Int32) → (Nat → Int32) → (Nat → Int32) → Int32 × Int32 × (Nat → Int32) × (Nat → Int32) × (Nat → Int32)
  | 0, x4_40, sh_40, wa_40, sp_40 => K_ x4_40 sh_40 wa_40 sp_40
  | d40 + 1, x4_40, sh_40, wa_40, sp_40 => (if (if (9 : Int32) < pn then (9 : Int32) else pn) ≤ x4_40 then (K_ x4_40 sh_40 wa_40 sp_40) else (if (F_X3_at lg cl (ti + x4_40)) = (6 : Int32) then (F_X1_ask_l40 pn sl dr kd bd yr lg cl ti K_ d40 (x4_40 + (1 : Int32)) (upd sh_40 x4_40.toNatClampNeg (F_J9_floorMod_7cf53 (sl * (F_X4_turnAt pn kd bd x4_40)) (6 : Int32))) (upd wa_40 x4_40.toNatClampNeg (6 : Int32)) (upd sp_40 ((upd sh_40 x4_40.toNatClampNeg (F_J9_floorMod_7cf53 (sl * (F_X4_turnAt pn kd bd x4_40)) (6 : Int32))) x4_40.toNatClampNeg).toNatClampNeg ((sp_40 ((upd sh_40 x4_40.toNatClampNeg (F_J9_floorMod_7cf53 (sl * (F_X4_turnAt pn kd bd x4_40)) (6 : Int32))) x4_40.toNatClampNeg).toNatClampNeg) + (1 : Int32)))) else (F_X1_ask_l40 pn sl dr kd bd yr lg cl ti K_ d40 (x4_40 + (1 : Int32)) (upd sh_40 x4_40.toNatClampNeg (F_J9_floorMod_7cf53 (sl * (F_X4_turnAt pn kd bd x4_40)) (6 : Int32))) (upd wa_40 x4_40.toNatClampNeg (F_J9_floorMod_7cf53 ((F_X3_at lg cl (ti + x4_40)) - (dr * (F_X4_yearAt pn yr x4_40))) (6 : Int32))) (upd sp_40 ((upd sh_40 x4_40.toNatClampNeg (F_J9_floorMod_7cf53 (sl * (F_X4_turnAt pn kd bd x4_40)) (6 : Int32))) x4_40.toNatClampNeg).toNatClampNeg ((sp_40 ((upd sh_40 x4_40.toNatClampNeg (F_J9_floorMod_7cf53 (sl * (F_X4_turnAt pn kd bd x4_40)) (6 : Int32))) x4_40.toNatClampNeg).toNatClampNeg) + (1 : Int32))))))
def F_X1_ask_k16 (sh : Nat → Int32) (wa : Nat → Int32) (pn : Int32) (sl : Int32) (dr : Int32) (kd : Nat → Int32) (bd : Nat → Int32) (yr : Nat → Int32) (lg : Int32) (cl : Nat → Int32) (ti : Int32) (x4_16 : Int32) (sp_16 : Nat → Int32) : Int32 × Int32 × (Nat → Int32) × (Nat → Int32) × (Nat → Int32) :=
  (F_X1_ask_l40 pn sl dr kd bd yr lg cl ti (F_X1_ask_k40 pn) 10 (0 : Int32) sh wa sp_16)
def F_X1_ask_l16 (K_ : Int32 → (Nat → Int32) → Int32 × Int32 × (Nat → Int32) × (Nat → Int32) × (Nat → Int32)) : Nat → Int32 → (Nat → Int32) → Int32 × Int32 × (Nat → Int32) × (Nat → Int32) × (Nat → Int32)
  | 0, x4_16, sp_16 => K_ x4_16 sp_16
  | d16 + 1, x4_16, sp_16 => (if (6 : Int32) ≤ x4_16 then (K_ x4_16 sp_16) else (F_X1_ask_l16 K_ d16 (x4_16 + (1 : Int32)) (upd sp_16 x4_16.toNatClampNeg (0 : Int32))))
def F_X1_ask (sh : Nat → Int32) (wa : Nat → Int32) (sp : Nat → Int32) (pn : Int32) (sl : Int32) (dr : Int32) (kd : Nat → Int32) (bd : Nat → Int32) (yr : Nat → Int32) (lg : Int32) (cl : Nat → Int32) (ti : Int32) : Int32 × Int32 × (Nat → Int32) × (Nat → Int32) × (Nat → Int32) :=
  (F_X1_ask_l16 (F_X1_ask_k16 sh wa pn sl dr kd bd yr lg cl ti) 7 (0 : Int32) sp)
set_option maxHeartbeats 4000000 in
set_option maxRecDepth 100000 in
theorem c_X1_ask (l : Launch) (D : va_G) (cI cO : ClassId) (h1 : Nat) (g1 : Nat) (g2 : Nat) (g3 : Nat) (lp : Int32) (lw : Int32) (sh : Nat → Int32) (wa : Nat → Int32) (sp : Nat → Int32) (h4 : Nat) (a1 : Nat) (a2 : Nat) (a3 : Nat) (pn : Int32) (sl : Int32) (dr : Int32) (nw : Int32) (kd : Nat → Int32) (bd : Nat → Int32) (yr : Nat → Int32) (h3 : Nat) (b1 : Nat) (ln : Int32) (lg : Int32) (cl : Nat → Int32) (ti : Int32) (np : Nat) (hlg : lg ≤ 60) (hpn : pn = nI np) (hnp : np ≤ 9) : zW l yX1_ask wsX1_ask ({ frames := 2, cells := 0, slots := 0, locals := 43 } : Room) D cI cO [.ref h1, .ref h4, .ref h3, .int ti] [(h1, .inr (1, [.ref g1, .ref g2, .ref g3, .int lp, .int lw])), (g1, .inl (cI, 9, .inl sh)), (g2, .inl (cI, 9, .inl wa)), (g3, .inl (cI, 6, .inl sp)), (h4, .inr (4, [.ref a1, .ref a2, .ref a3, .int pn, .int sl, .int dr, .int nw])), (a1, .inl (cI, 9, .inl kd)), (a2, .inl (cI, 9, .inl bd)), (a3, .inl (cI, 9, .inl yr)), (h3, .inr (3, [.ref b1, .int ln, .int lg])), (b1, .inl (cI, 60, .inl cl))] [(h1, .inr (1, [.ref g1, .ref g2, .ref g3, .int ((F_X1_ask sh wa sp pn sl dr kd bd yr lg cl ti).1), .int ((F_X1_ask sh wa sp pn sl dr kd bd yr lg cl ti).2.1)])), (g1, .inl (cI, 9, .inl ((F_X1_ask sh wa sp pn sl dr kd bd yr lg cl ti).2.2.1))), (g2, .inl (cI, 9, .inl ((F_X1_ask sh wa sp pn sl dr kd bd yr lg cl ti).2.2.2.1))), (g3, .inl (cI, 6, .inl ((F_X1_ask sh wa sp pn sl dr kd bd yr lg cl ti).2.2.2.2))), (h4, .inr (4, [.ref a1, .ref a2, .ref a3, .int pn, .int sl, .int dr, .int nw])), (a1, .inl (cI, 9, .inl kd)), (a2, .inl (cI, 9, .inl bd)), (a3, .inl (cI, 9, .inl yr)), (h3, .inr (3, [.ref b1, .int ln, .int lg])), (b1, .inl (cI, 60, .inl cl))] none := by
  refine zW_of (nL := 6) (cc := cX1_ask) (ret := none) (lv := [(0, .ref h1), (1, .ref h4), (2, .ref h3), (3, .int ti)]) (by decide +kernel) rfl (Nat.le_of_ble_eq_true rfl) rfl (fun p e s m args below meth c C hr hlk => ?_)
  have hf := F_X1_ask.eq_1 sh wa sp pn sl dr kd bd yr lg cl ti
  refine z_aload_n C dX1_ask_0 rfl 0 rfl ?_
  refine z_aload_n C dX1_ask_1 rfl 1 rfl ?_
  refine z_get (T := TX4) (v := .int pn) C i_X1_ask_4 4 rfl rfl 3 (by decide) m_X1_ask_1 rfl rfl dX1_ask_2 ?_
  refine z_bipush (v := (9 : Int32)) C dX1_ask_5 (by decide) ?_
  refine z_min C m_X1_ask_2 m_X1_ask_3 m_X1_ask_4 m_X1_ask_5 (by decide) (Nat.le_of_ble_eq_true rfl) (Nat.zero_le _) (Nat.zero_le _) dX1_ask_7 ?_
  refine z_put (T := TX1) (ty := .int) C [(h1, .inr (1, [.ref g1, .ref g2, .ref g3, .int (if (9 : Int32) < pn then (9 : Int32) else pn), .int lw])), (g1, .inl (cI, 9, .inl sh)), (g2, .inl (cI, 9, .inl wa)), (g3, .inl (cI, 6, .inl sp)), (h4, .inr (4, [.ref a1, .ref a2, .ref a3, .int pn, .int sl, .int dr, .int nw])), (a1, .inl (cI, 9, .inl kd)), (a2, .inl (cI, 9, .inl bd)), (a3, .inl (cI, 9, .inl yr)), (h3, .inr (3, [.ref b1, .int ln, .int lg])), (b1, .inl (cI, 60, .inl cl))] i_X1_ask_1 tyX1 tyX1_ok nmX1 0 rfl rfl 3 (by decide) m_X1_ask_6 rfl rfl (by decide +kernel) rfl rfl (Nat.le_of_ble_eq_true rfl) dX1_ask_10 rfl ?_
  have hmin := z_min9 hpn hnp
  refine z_iconst (v := (0 : Int32)) C dX1_ask_13 (by decide) ?_
  refine z_istore C [(0, .ref h1), (1, .ref h4), (2, .ref h3), (3, .int ti), (4, .int (0 : Int32))] dX1_ask_14 (by decide) [1, 2, 3, 4, 0] rfl ?_
  have X16 : ∀ (x4_16 : Int32) (sp_16 : Nat → Int32), F_X1_ask sh wa sp pn sl dr kd bd yr lg cl ti = (F_X1_ask_k16 sh wa pn sl dr kd bd yr lg cl ti) x4_16 sp_16 → zG p l e ({ frames := 2, cells := 0, slots := 0, locals := 43 } : Room) s m args below meth c D (zA [(h1, .inr (1, [.ref g1, .ref g2, .ref g3, .int lp, .int lw])), (g1, .inl (cI, 9, .inl sh)), (g2, .inl (cI, 9, .inl wa)), (g3, .inl (cI, 6, .inl sp)), (h4, .inr (4, [.ref a1, .ref a2, .ref a3, .int pn, .int sl, .int dr, .int nw])), (a1, .inl (cI, 9, .inl kd)), (a2, .inl (cI, 9, .inl bd)), (a3, .inl (cI, 9, .inl yr)), (h3, .inr (3, [.ref b1, .int ln, .int lg])), (b1, .inl (cI, 60, .inl cl))]) (zXw (zA [(h1, .inr (1, [.ref g1, .ref g2, .ref g3, .int lp, .int lw])), (g1, .inl (cI, 9, .inl sh)), (g2, .inl (cI, 9, .inl wa)), (g3, .inl (cI, 6, .inl sp)), (h4, .inr (4, [.ref a1, .ref a2, .ref a3, .int pn, .int sl, .int dr, .int nw])), (a1, .inl (cI, 9, .inl kd)), (a2, .inl (cI, 9, .inl bd)), (a3, .inl (cI, 9, .inl yr)), (h3, .inr (3, [.ref b1, .int ln, .int lg])), (b1, .inl (cI, 60, .inl cl))]) s.heap) 6 0 0 (MQ below (zQw D [(h1, .inr (1, [.ref g1, .ref g2, .ref g3, .int ((F_X1_ask sh wa sp pn sl dr kd bd yr lg cl ti).1), .int ((F_X1_ask sh wa sp pn sl dr kd bd yr lg cl ti).2.1)])), (g1, .inl (cI, 9, .inl ((F_X1_ask sh wa sp pn sl dr kd bd yr lg cl ti).2.2.1))), (g2, .inl (cI, 9, .inl ((F_X1_ask sh wa sp pn sl dr kd bd yr lg cl ti).2.2.2.1))), (g3, .inl (cI, 6, .inl ((F_X1_ask sh wa sp pn sl dr kd bd yr lg cl ti).2.2.2.2))), (h4, .inr (4, [.ref a1, .ref a2, .ref a3, .int pn, .int sl, .int dr, .int nw])), (a1, .inl (cI, 9, .inl kd)), (a2, .inl (cI, 9, .inl bd)), (a3, .inl (cI, 9, .inl yr)), (h3, .inr (3, [.ref b1, .int ln, .int lg])), (b1, .inl (cI, 60, .inl cl))] (zA [(h1, .inr (1, [.ref g1, .ref g2, .ref g3, .int lp, .int lw])), (g1, .inl (cI, 9, .inl sh)), (g2, .inl (cI, 9, .inl wa)), (g3, .inl (cI, 6, .inl sp)), (h4, .inr (4, [.ref a1, .ref a2, .ref a3, .int pn, .int sl, .int dr, .int nw])), (a1, .inl (cI, 9, .inl kd)), (a2, .inl (cI, 9, .inl bd)), (a3, .inl (cI, 9, .inl yr)), (h3, .inr (3, [.ref b1, .int ln, .int lg])), (b1, .inl (cI, 60, .inl cl))]) none) args s 0 0 (zA [(h1, .inr (1, [.ref g1, .ref g2, .ref g3, .int lp, .int lw])), (g1, .inl (cI, 9, .inl sh)), (g2, .inl (cI, 9, .inl wa)), (g3, .inl (cI, 6, .inl sp)), (h4, .inr (4, [.ref a1, .ref a2, .ref a3, .int pn, .int sl, .int dr, .int nw])), (a1, .inl (cI, 9, .inl kd)), (a2, .inl (cI, 9, .inl bd)), (a3, .inl (cI, 9, .inl yr)), (h3, .inr (3, [.ref b1, .int ln, .int lg])), (b1, .inl (cI, 60, .inl cl))])) 37 [(0, .ref h1), (1, .ref h4), (2, .ref h3), (3, .int ti), (4, .int x4_16)] [] [(h1, .inr (1, [.ref g1, .ref g2, .ref g3, .int (if (9 : Int32) < pn then (9 : Int32) else pn), .int lw])), (g1, .inl (cI, 9, .inl sh)), (g2, .inl (cI, 9, .inl wa)), (g3, .inl (cI, 6, .inl sp_16)), (h4, .inr (4, [.ref a1, .ref a2, .ref a3, .int pn, .int sl, .int dr, .int nw])), (a1, .inl (cI, 9, .inl kd)), (a2, .inl (cI, 9, .inl bd)), (a3, .inl (cI, 9, .inl yr)), (h3, .inr (3, [.ref b1, .int ln, .int lg])), (b1, .inl (cI, 60, .inl cl))] := by
    intro x4_16 sp_16 hf
    rw [F_X1_ask_k16] at hf
    skip
    refine z_iconst (v := (0 : Int32)) C dX1_ask_37 (by decide) ?_
    refine z_istore C [(0, .ref h1), (1, .ref h4), (2, .ref h3), (3, .int ti), (4, .int (0 : Int32))] dX1_ask_38 (by decide) [1, 2, 3, 4, 0] rfl ?_
    have X40 : ∀ (x4_40 : Int32) (sh_40 : Nat → Int32) (wa_40 : Nat → Int32) (sp_40 : Nat → Int32) (hwx : ∀ i, i < np → wa_40 i = 6 ∨ vp_in (wa_40 i) 6), F_X1_ask sh wa sp pn sl dr kd bd yr lg cl ti = (F_X1_ask_k40 pn) x4_40 sh_40 wa_40 sp_40 → zG p l e ({ frames := 2, cells := 0, slots := 0, locals := 43 } : Room) s m args below meth c D (zA [(h1, .inr (1, [.ref g1, .ref g2, .ref g3, .int lp, .int lw])), (g1, .inl (cI, 9, .inl sh)), (g2, .inl (cI, 9, .inl wa)), (g3, .inl (cI, 6, .inl sp)), (h4, .inr (4, [.ref a1, .ref a2, .ref a3, .int pn, .int sl, .int dr, .int nw])), (a1, .inl (cI, 9, .inl kd)), (a2, .inl (cI, 9, .inl bd)), (a3, .inl (cI, 9, .inl yr)), (h3, .inr (3, [.ref b1, .int ln, .int lg])), (b1, .inl (cI, 60, .inl cl))]) (zXw (zA [(h1, .inr (1, [.ref g1, .ref g2, .ref g3, .int lp, .int lw])), (g1, .inl (cI, 9, .inl sh)), (g2, .inl (cI, 9, .inl wa)), (g3, .inl (cI, 6, .inl sp)), (h4, .inr (4, [.ref a1, .ref a2, .ref a3, .int pn, .int sl, .int dr, .int nw])), (a1, .inl (cI, 9, .inl kd)), (a2, .inl (cI, 9, .inl bd)), (a3, .inl (cI, 9, .inl yr)), (h3, .inr (3, [.ref b1, .int ln, .int lg])), (b1, .inl (cI, 60, .inl cl))]) s.heap) 6 0 0 (MQ below (zQw D [(h1, .inr (1, [.ref g1, .ref g2, .ref g3, .int ((F_X1_ask sh wa sp pn sl dr kd bd yr lg cl ti).1), .int ((F_X1_ask sh wa sp pn sl dr kd bd yr lg cl ti).2.1)])), (g1, .inl (cI, 9, .inl ((F_X1_ask sh wa sp pn sl dr kd bd yr lg cl ti).2.2.1))), (g2, .inl (cI, 9, .inl ((F_X1_ask sh wa sp pn sl dr kd bd yr lg cl ti).2.2.2.1))), (g3, .inl (cI, 6, .inl ((F_X1_ask sh wa sp pn sl dr kd bd yr lg cl ti).2.2.2.2))), (h4, .inr (4, [.ref a1, .ref a2, .ref a3, .int pn, .int sl, .int dr, .int nw])), (a1, .inl (cI, 9, .inl kd)), (a2, .inl (cI, 9, .inl bd)), (a3, .inl (cI, 9, .inl yr)), (h3, .inr (3, [.ref b1, .int ln, .int lg])), (b1, .inl (cI, 60, .inl cl))] (zA [(h1, .inr (1, [.ref g1, .ref g2, .ref g3, .int lp, .int lw])), (g1, .inl (cI, 9, .inl sh)), (g2, .inl (cI, 9, .inl wa)), (g3, .inl (cI, 6, .inl sp)), (h4, .inr (4, [.ref a1, .ref a2, .ref a3, .int pn, .int sl, .int dr, .int nw])), (a1, .inl (cI, 9, .inl kd)), (a2, .inl (cI, 9, .inl bd)), (a3, .inl (cI, 9, .inl yr)), (h3, .inr (3, [.ref b1, .int ln, .int lg])), (b1, .inl (cI, 60, .inl cl))]) none) args s 0 0 (zA [(h1, .inr (1, [.ref g1, .ref g2, .ref g3, .int lp, .int lw])), (g1, .inl (cI, 9, .inl sh)), (g2, .inl (cI, 9, .inl wa)), (g3, .inl (cI, 6, .inl sp)), (h4, .inr (4, [.ref a1, .ref a2, .ref a3, .int pn, .int sl, .int dr, .int nw])), (a1, .inl (cI, 9, .inl kd)), (a2, .inl (cI, 9, .inl bd)), (a3, .inl (cI, 9, .inl yr)), (h3, .inr (3, [.ref b1, .int ln, .int lg])), (b1, .inl (cI, 60, .inl cl))])) 142 [(0, .ref h1), (1, .ref h4), (2, .ref h3), (3, .int ti), (4, .int x4_40)] [] [(h1, .inr (1, [.ref g1, .ref g2, .ref g3, .int (if (9 : Int32) < pn then (9 : Int32) else pn), .int lw])), (g1, .inl (cI, 9, .inl sh_40)), (g2, .inl (cI, 9, .inl wa_40)), (g3, .inl (cI, 6, .inl sp_40)), (h4, .inr (4, [.ref a1, .ref a2, .ref a3, .int pn, .int sl, .int dr, .int nw])), (a1, .inl (cI, 9, .inl kd)), (a2, .inl (cI, 9, .inl bd)), (a3, .inl (cI, 9, .inl yr)), (h3, .inr (3, [.ref b1, .int ln, .int lg])), (b1, .inl (cI, 60, .inl cl))] := by
      intro x4_40 sh_40 wa_40 sp_40 hwx hf
      rw [F_X1_ask_k40] at hf
      skip
      refine z_aload_n C dX1_ask_142 rfl 0 rfl ?_
      refine z_aload_n C dX1_ask_143 rfl 0 rfl ?_
      refine z_cVW (As := []) C (c_X1_countWays l D cI cO h1 g1 g2 g3 (if (9 : Int32) < pn then (9 : Int32) else pn) lw wa_40 sp_40 np hmin hnp hwx) (cwV 0 C.2.2.2.2.1 gX1_ask_X1_countWays rfl rfl rfl hdV_X1_countWays ⟨Nat.le_of_ble_eq_true rfl, Nat.le_of_ble_eq_true rfl⟩) [(h1, .inr (1, [.ref g1, .ref g2, .ref g3, .int (if (9 : Int32) < pn then (9 : Int32) else pn), .int lw])), (g1, .inl (cI, 9, .inl sh_40)), (g2, .inl (cI, 9, .inl wa_40)), (g3, .inl (cI, 6, .inl ((F_X1_countWays (if (9 : Int32) < pn then (9 : Int32) else pn) wa_40 sp_40).2))), (h4, .inr (4, [.ref a1, .ref a2, .ref a3, .int pn, .int sl, .int dr, .int nw])), (a1, .inl (cI, 9, .inl kd)), (a2, .inl (cI, 9, .inl bd)), (a3, .inl (cI, 9, .inl yr)), (h3, .inr (3, [.ref b1, .int ln, .int lg])), (b1, .inl (cI, 60, .inl cl))] [0, 2, 3] rfl rfl (Eq.refl [h1, g2, g3]) rfl 0 rfl rfl rfl _ rfl (Nat.le_of_ble_eq_true rfl) ⟨Nat.zero_le _, Nat.zero_le _⟩ dX1_ask_144 ?_
      generalize hu144 : (F_X1_countWays (if (9 : Int32) < pn then (9 : Int32) else pn) wa_40 sp_40) = u144 at hf ⊢
      refine z_put (T := TX1) (ty := .int) C [(h1, .inr (1, [.ref g1, .ref g2, .ref g3, .int (if (9 : Int32) < pn then (9 : Int32) else pn), .int u144.1])), (g1, .inl (cI, 9, .inl sh_40)), (g2, .inl (cI, 9, .inl wa_40)), (g3, .inl (cI, 6, .inl u144.2)), (h4, .inr (4, [.ref a1, .ref a2, .ref a3, .int pn, .int sl, .int dr, .int nw])), (a1, .inl (cI, 9, .inl kd)), (a2, .inl (cI, 9, .inl bd)), (a3, .inl (cI, 9, .inl yr)), (h3, .inr (3, [.ref b1, .int ln, .int lg])), (b1, .inl (cI, 60, .inl cl))] i_X1_ask_1 tyX1 tyX1_ok nmX1 0 rfl rfl 4 (by decide) m_X1_ask_12 rfl rfl (by decide +kernel) rfl rfl (Nat.le_of_ble_eq_true rfl) dX1_ask_147 rfl ?_
      exact z_vretW C hr hlk (by rw [hf]) dX1_ask_150
    have L40 : ∀ (d40 : Nat) (j : Nat) (x4_40 : Int32) (sh_40 : Nat → Int32) (wa_40 : Nat → Int32) (sp_40 : Nat → Int32) (e4 : x4_40 = nI j) (hj : j ≤ np) (hd : np < j + d40) (hwi : ∀ i, i < j → wa_40 i = 6 ∨ vp_in (wa_40 i) 6), F_X1_ask sh wa sp pn sl dr kd bd yr lg cl ti = F_X1_ask_l40 pn sl dr kd bd yr lg cl ti (F_X1_ask_k40 pn) d40 x4_40 sh_40 wa_40 sp_40 → zG p l e ({ frames := 2, cells := 0, slots := 0, locals := 43 } : Room) s m args below meth c D (zA [(h1, .inr (1, [.ref g1, .ref g2, .ref g3, .int lp, .int lw])), (g1, .inl (cI, 9, .inl sh)), (g2, .inl (cI, 9, .inl wa)), (g3, .inl (cI, 6, .inl sp)), (h4, .inr (4, [.ref a1, .ref a2, .ref a3, .int pn, .int sl, .int dr, .int nw])), (a1, .inl (cI, 9, .inl kd)), (a2, .inl (cI, 9, .inl bd)), (a3, .inl (cI, 9, .inl yr)), (h3, .inr (3, [.ref b1, .int ln, .int lg])), (b1, .inl (cI, 60, .inl cl))]) (zXw (zA [(h1, .inr (1, [.ref g1, .ref g2, .ref g3, .int lp, .int lw])), (g1, .inl (cI, 9, .inl sh)), (g2, .inl (cI, 9, .inl wa)), (g3, .inl (cI, 6, .inl sp)), (h4, .inr (4, [.ref a1, .ref a2, .ref a3, .int pn, .int sl, .int dr, .int nw])), (a1, .inl (cI, 9, .inl kd)), (a2, .inl (cI, 9, .inl bd)), (a3, .inl (cI, 9, .inl yr)), (h3, .inr (3, [.ref b1, .int ln, .int lg])), (b1, .inl (cI, 60, .inl cl))]) s.heap) 6 0 0 (MQ below (zQw D [(h1, .inr (1, [.ref g1, .ref g2, .ref g3, .int ((F_X1_ask sh wa sp pn sl dr kd bd yr lg cl ti).1), .int ((F_X1_ask sh wa sp pn sl dr kd bd yr lg cl ti).2.1)])), (g1, .inl (cI, 9, .inl ((F_X1_ask sh wa sp pn sl dr kd bd yr lg cl ti).2.2.1))), (g2, .inl (cI, 9, .inl ((F_X1_ask sh wa sp pn sl dr kd bd yr lg cl ti).2.2.2.1))), (g3, .inl (cI, 6, .inl ((F_X1_ask sh wa sp pn sl dr kd bd yr lg cl ti).2.2.2.2))), (h4, .inr (4, [.ref a1, .ref a2, .ref a3, .int pn, .int sl, .int dr, .int nw])), (a1, .inl (cI, 9, .inl kd)), (a2, .inl (cI, 9, .inl bd)), (a3, .inl (cI, 9, .inl yr)), (h3, .inr (3, [.ref b1, .int ln, .int lg])), (b1, .inl (cI, 60, .inl cl))] (zA [(h1, .inr (1, [.ref g1, .ref g2, .ref g3, .int lp, .int lw])), (g1, .inl (cI, 9, .inl sh)), (g2, .inl (cI, 9, .inl wa)), (g3, .inl (cI, 6, .inl sp)), (h4, .inr (4, [.ref a1, .ref a2, .ref a3, .int pn, .int sl, .int dr, .int nw])), (a1, .inl (cI, 9, .inl kd)), (a2, .inl (cI, 9, .inl bd)), (a3, .inl (cI, 9, .inl yr)), (h3, .inr (3, [.ref b1, .int ln, .int lg])), (b1, .inl (cI, 60, .inl cl))]) none) args s 0 0 (zA [(h1, .inr (1, [.ref g1, .ref g2, .ref g3, .int lp, .int lw])), (g1, .inl (cI, 9, .inl sh)), (g2, .inl (cI, 9, .inl wa)), (g3, .inl (cI, 6, .inl sp)), (h4, .inr (4, [.ref a1, .ref a2, .ref a3, .int pn, .int sl, .int dr, .int nw])), (a1, .inl (cI, 9, .inl kd)), (a2, .inl (cI, 9, .inl bd)), (a3, .inl (cI, 9, .inl yr)), (h3, .inr (3, [.ref b1, .int ln, .int lg])), (b1, .inl (cI, 60, .inl cl))])) 40 [(0, .ref h1), (1, .ref h4), (2, .ref h3), (3, .int ti), (4, .int x4_40)] [] [(h1, .inr (1, [.ref g1, .ref g2, .ref g3, .int (if (9 : Int32) < pn then (9 : Int32) else pn), .int lw])), (g1, .inl (cI, 9, .inl sh_40)), (g2, .inl (cI, 9, .inl wa_40)), (g3, .inl (cI, 6, .inl sp_40)), (h4, .inr (4, [.ref a1, .ref a2, .ref a3, .int pn, .int sl, .int dr, .int nw])), (a1, .inl (cI, 9, .inl kd)), (a2, .inl (cI, 9, .inl bd)), (a3, .inl (cI, 9, .inl yr)), (h3, .inr (3, [.ref b1, .int ln, .int lg])), (b1, .inl (cI, 60, .inl cl))] := by
      intro d40
      induction d40 with
      | zero =>
        intro j x4_40 sh_40 wa_40 sp_40 e4 hj hd hwi hf
        exfalso; omega
      | succ d40 ih40 =>
        intro j x4_40 sh_40 wa_40 sp_40 e4 hj hd hwi hf
        rw [F_X1_ask_l40] at hf
        skip
        refine z_iload C dX1_ask_40 4 rfl ?_
        refine z_aload_n C dX1_ask_42 rfl 0 rfl ?_
        refine z_get (T := TX1) (v := .int (if (9 : Int32) < pn then (9 : Int32) else pn)) C i_X1_ask_1 0 rfl rfl 3 (by decide) m_X1_ask_6 rfl rfl dX1_ask_43 ?_
        refine z_icmp_ge (tgt := 142) C dX1_ask_46 (by decide) (fun c46 => ?_) (fun c46 => ?_)
        · rw [if_pos c46] at hf
          exact X40 x4_40 sh_40 wa_40 sp_40 (fun i hi => hwi i (by have := z_jge e4 (by omega) (z_tiN hmin (by omega)) c46; omega)) hf
        · rw [if_neg c46] at hf
          refine z_aload_n C dX1_ask_49 rfl 2 rfl ?_
          refine z_iload_n C dX1_ask_50 rfl 3 rfl ?_
          refine z_iload C dX1_ask_51 4 rfl ?_
          refine z_iadd C dX1_ask_53 ?_
          refine z_cVR (As := [.int (ti + x4_40)]) C (c_X3_at l D cI cO h3 b1 ln lg cl (ti + x4_40) hlg) (cwV 1 C.2.2.2.2.1 gX1_ask_X3_at rfl rfl rfl hdV_X3_at ⟨Nat.le_of_ble_eq_true rfl, Nat.le_of_ble_eq_true rfl⟩) [8, 9] rfl rfl 8 rfl rfl rfl _ rfl (Nat.le_of_ble_eq_true rfl) ⟨Nat.zero_le _, Nat.zero_le _⟩ dX1_ask_54 ?_
          generalize hu54 : (F_X3_at lg cl (ti + x4_40)) = u54 at hf ⊢
          refine z_istore C [(0, .ref h1), (1, .ref h4), (2, .ref h3), (3, .int ti), (4, .int x4_40), (5, .int u54)] dX1_ask_57 (by decide) [1, 2, 3, 4, 5, 0] rfl ?_
          refine z_aload_n C dX1_ask_59 rfl 0 rfl ?_
          refine z_get (T := TX1) (v := .ref g1) C i_X1_ask_1 0 rfl rfl 0 (by decide) m_X1_ask_8 rfl rfl dX1_ask_60 ?_
          refine z_iload C dX1_ask_63 4 rfl ?_
          refine z_aload_n C dX1_ask_65 rfl 1 rfl ?_
          refine z_get (T := TX4) (v := .int sl) C i_X1_ask_4 4 rfl rfl 4 (by decide) m_X1_ask_9 rfl rfl dX1_ask_66 ?_
          refine z_aload_n C dX1_ask_69 rfl 1 rfl ?_
          refine z_iload C dX1_ask_70 4 rfl ?_
          refine z_cVR (As := [.int x4_40]) C (c_X4_turnAt l D cI cO h4 a1 a2 a3 pn sl dr nw kd bd x4_40) (cwV 1 C.2.2.2.2.1 gX1_ask_X4_turnAt rfl rfl rfl hdV_X4_turnAt ⟨Nat.le_of_ble_eq_true rfl, Nat.le_of_ble_eq_true rfl⟩) [4, 5, 6] rfl rfl 4 rfl rfl rfl _ rfl (Nat.le_of_ble_eq_true rfl) ⟨Nat.zero_le _, Nat.zero_le _⟩ dX1_ask_72 ?_
          generalize hu72 : (F_X4_turnAt pn kd bd x4_40) = u72 at hf ⊢
          refine z_imul C dX1_ask_75 ?_
          refine z_bipush (v := (6 : Int32)) C dX1_ask_76 (by decide) ?_
          refine z_cSR (As := [.int (sl * u72), .int (6 : Int32)]) C (c_J9_floorMod_7cf53 l D cI cO (sl * u72) (6 : Int32) (by decide)) (va_cwS 2 C.2.2.2.2.1 gX1_ask_J9_floorMod_7cf53 rfl rfl rfl hdS_J9_floorMod_7cf53 ⟨Nat.le_of_ble_eq_true rfl, Nat.le_of_ble_eq_true rfl⟩) [] rfl rfl rfl _ rfl (Nat.le_of_ble_eq_true rfl) ⟨Nat.zero_le _, Nat.zero_le _⟩ dX1_ask_78 ?_
          generalize hu78 : (F_J9_floorMod_7cf53 (sl * u72) (6 : Int32)) = u78 at hf ⊢
          refine z_ast C [(h1, .inr (1, [.ref g1, .ref g2, .ref g3, .int (if (9 : Int32) < pn then (9 : Int32) else pn), .int lw])), (g1, .inl (cI, 9, .inl (upd sh_40 x4_40.toNatClampNeg u78))), (g2, .inl (cI, 9, .inl wa_40)), (g3, .inl (cI, 6, .inl sp_40)), (h4, .inr (4, [.ref a1, .ref a2, .ref a3, .int pn, .int sl, .int dr, .int nw])), (a1, .inl (cI, 9, .inl kd)), (a2, .inl (cI, 9, .inl bd)), (a3, .inl (cI, 9, .inl yr)), (h3, .inr (3, [.ref b1, .int ln, .int lg])), (b1, .inl (cI, 60, .inl cl))] 1 rfl (by subst hu78 hu72 hu54; exact (z_ixN e4 (Nat.lt_of_lt_of_le (z_jlt e4 (by omega) (z_tiN hmin (by omega)) c46) hnp) (by decide))) dX1_ask_81 rfl ?_
          refine z_aload_n C dX1_ask_82 rfl 0 rfl ?_
          refine z_get (T := TX1) (v := .ref g2) C i_X1_ask_1 0 rfl rfl 1 (by decide) m_X1_ask_10 rfl rfl dX1_ask_83 ?_
          refine z_iload C dX1_ask_86 4 rfl ?_
          refine z_iload C dX1_ask_88 5 rfl ?_
          refine z_bipush (v := (6 : Int32)) C dX1_ask_90 (by decide) ?_
          refine z_icmp_ne (tgt := 100) C dX1_ask_92 (by decide) (fun c92 => ?_) (fun c92 => ?_)
          · rw [if_neg c92] at hf
            have b92 := c92
            rw [← hu54] at c92
            refine z_iload C dX1_ask_100 5 rfl ?_
            refine z_aload_n C dX1_ask_102 rfl 1 rfl ?_
            refine z_get (T := TX4) (v := .int dr) C i_X1_ask_4 4 rfl rfl 5 (by decide) m_X1_ask_11 rfl rfl dX1_ask_103 ?_
            refine z_aload_n C dX1_ask_106 rfl 1 rfl ?_
            refine z_iload C dX1_ask_107 4 rfl ?_
            refine z_cVR (As := [.int x4_40]) C (c_X4_yearAt l D cI cO h4 a1 a2 a3 pn sl dr nw yr x4_40) (cwV 1 C.2.2.2.2.1 gX1_ask_X4_yearAt rfl rfl rfl hdV_X4_yearAt ⟨Nat.le_of_ble_eq_true rfl, Nat.le_of_ble_eq_true rfl⟩) [4, 7] rfl rfl 4 rfl rfl rfl _ rfl (Nat.le_of_ble_eq_true rfl) ⟨Nat.zero_le _, Nat.zero_le _⟩ dX1_ask_109 ?_
            generalize hu109 : (F_X4_yearAt pn yr x4_40) = u109 at hf ⊢
            refine z_imul C dX1_ask_112 ?_
            refine z_isub C dX1_ask_113 ?_
            refine z_bipush (v := (6 : Int32)) C dX1_ask_114 (by decide) ?_
            refine z_cSR (As := [.int (u54 - (dr * u109)), .int (6 : Int32)]) C (c_J9_floorMod_7cf53 l D cI cO (u54 - (dr * u109)) (6 : Int32) (by decide)) (va_cwS 2 C.2.2.2.2.1 gX1_ask_J9_floorMod_7cf53 rfl rfl rfl hdS_J9_floorMod_7cf53 ⟨Nat.le_of_ble_eq_true rfl, Nat.le_of_ble_eq_true rfl⟩) [] rfl rfl rfl _ rfl (Nat.le_of_ble_eq_true rfl) ⟨Nat.zero_le _, Nat.zero_le _⟩ dX1_ask_116 ?_
            generalize hu116 : (F_J9_floorMod_7cf53 (u54 - (dr * u109)) (6 : Int32)) = u116 at hf ⊢
            refine z_ast C [(h1, .inr (1, [.ref g1, .ref g2, .ref g3, .int (if (9 : Int32) < pn then (9 : Int32) else pn), .int lw])), (g1, .inl (cI, 9, .inl (upd sh_40 x4_40.toNatClampNeg u78))), (g2, .inl (cI, 9, .inl (upd wa_40 x4_40.toNatClampNeg u116))), (g3, .inl (cI, 6, .inl sp_40)), (h4, .inr (4, [.ref a1, .ref a2, .ref a3, .int pn, .int sl, .int dr, .int nw])), (a1, .inl (cI, 9, .inl kd)), (a2, .inl (cI, 9, .inl bd)), (a3, .inl (cI, 9, .inl yr)), (h3, .inr (3, [.ref b1, .int ln, .int lg])), (b1, .inl (cI, 60, .inl cl))] 2 rfl (by subst hu116 hu109 hu78 hu72 hu54; exact (z_ixN e4 (Nat.lt_of_lt_of_le (z_jlt e4 (by omega) (z_tiN hmin (by omega)) c46) hnp) (by decide))) dX1_ask_119 rfl ?_
            refine z_aload_n C dX1_ask_120 rfl 0 rfl ?_
            refine z_get (T := TX1) (v := .ref g3) C i_X1_ask_1 0 rfl rfl 2 (by decide) m_X1_ask_7 rfl rfl dX1_ask_121 ?_
            refine z_aload_n C dX1_ask_124 rfl 0 rfl ?_
            refine z_get (T := TX1) (v := .ref g1) C i_X1_ask_1 0 rfl rfl 0 (by decide) m_X1_ask_8 rfl rfl dX1_ask_125 ?_
            refine z_iload C dX1_ask_128 4 rfl ?_
            refine z_ald C 1 rfl (by subst hu116 hu109 hu78 hu72 hu54; exact (z_ixN e4 (Nat.lt_of_lt_of_le (z_jlt e4 (by omega) (z_tiN hmin (by omega)) c46) hnp) (by decide))) dX1_ask_130 ?_
            refine z_dup2 C dX1_ask_131 rfl rfl ?_
            refine z_ald C 3 rfl (by subst hu116 hu109 hu78 hu72 hu54; exact (by rw [pk_us]; exact fm_in _)) dX1_ask_132 ?_
            refine z_iconst (v := (1 : Int32)) C dX1_ask_133 (by decide) ?_
            refine z_iadd C dX1_ask_134 ?_
            refine z_ast C [(h1, .inr (1, [.ref g1, .ref g2, .ref g3, .int (if (9 : Int32) < pn then (9 : Int32) else pn), .int lw])), (g1, .inl (cI, 9, .inl (upd sh_40 x4_40.toNatClampNeg u78))), (g2, .inl (cI, 9, .inl (upd wa_40 x4_40.toNatClampNeg u116))), (g3, .inl (cI, 6, .inl (upd sp_40 ((upd sh_40 x4_40.toNatClampNeg u78) x4_40.toNatClampNeg).toNatClampNeg ((sp_40 ((upd sh_40 x4_40.toNatClampNeg u78) x4_40.toNatClampNeg).toNatClampNeg) + (1 : Int32))))), (h4, .inr (4, [.ref a1, .ref a2, .ref a3, .int pn, .int sl, .int dr, .int nw])), (a1, .inl (cI, 9, .inl kd)), (a2, .inl (cI, 9, .inl bd)), (a3, .inl (cI, 9, .inl yr)), (h3, .inr (3, [.ref b1, .int ln, .int lg])), (b1, .inl (cI, 60, .inl cl))] 3 rfl (by subst hu116 hu109 hu78 hu72 hu54; exact (by rw [pk_us]; exact fm_in _)) dX1_ask_135 rfl ?_
            refine z_iinc (v := (x4_40 + (1 : Int32))) C [(0, .ref h1), (1, .ref h4), (2, .ref h3), (3, .int ti), (4, .int (x4_40 + (1 : Int32))), (5, .int u54)] dX1_ask_136 4 rfl (by rfl) (by decide) [1, 2, 3, 4, 0, 5] rfl ?_
            refine z_goto (tgt := 40) C dX1_ask_139 (by decide) ?_
            refine z_ls [(0, .ref h1), (1, .ref h4), (2, .ref h3), (3, .int ti), (4, .int (x4_40 + (1 : Int32)))] [0, 1, 2, 3, 4] rfl ?_
            exact ih40 (j + 1) (x4_40 + (1 : Int32)) (upd sh_40 x4_40.toNatClampNeg u78) (upd wa_40 x4_40.toNatClampNeg u116) (upd sp_40 ((upd sh_40 x4_40.toNatClampNeg u78) x4_40.toNatClampNeg).toNatClampNeg ((sp_40 ((upd sh_40 x4_40.toNatClampNeg u78) x4_40.toNatClampNeg).toNatClampNeg) + (1 : Int32))) (by subst hu116 hu109 hu78 hu72 hu54; exact (by rw [e4]; exact nI_1 j)) (by subst hu116 hu109 hu78 hu72 hu54; exact (by have := z_jlt e4 (by omega) (z_tiN hmin (by omega)) c46; omega)) (by omega) (by subst hu116 hu109 hu78 hu72 hu54; exact (z_wa e4 (by omega) hwi (by first | exact Or.inl rfl | exact Or.inr (fm_in _)))) hf
          · rw [if_pos c92] at hf
            have b92 := c92
            rw [← hu54] at c92
            refine z_bipush (v := (6 : Int32)) C dX1_ask_95 (by decide) ?_
            refine z_goto (tgt := 119) C dX1_ask_97 (by decide) ?_
            refine z_ast C [(h1, .inr (1, [.ref g1, .ref g2, .ref g3, .int (if (9 : Int32) < pn then (9 : Int32) else pn), .int lw])), (g1, .inl (cI, 9, .inl (upd sh_40 x4_40.toNatClampNeg u78))), (g2, .inl (cI, 9, .inl (upd wa_40 x4_40.toNatClampNeg (6 : Int32)))), (g3, .inl (cI, 6, .inl sp_40)), (h4, .inr (4, [.ref a1, .ref a2, .ref a3, .int pn, .int sl, .int dr, .int nw])), (a1, .inl (cI, 9, .inl kd)), (a2, .inl (cI, 9, .inl bd)), (a3, .inl (cI, 9, .inl yr)), (h3, .inr (3, [.ref b1, .int ln, .int lg])), (b1, .inl (cI, 60, .inl cl))] 2 rfl (by subst hu78 hu72 hu54; exact (z_ixN e4 (Nat.lt_of_lt_of_le (z_jlt e4 (by omega) (z_tiN hmin (by omega)) c46) hnp) (by decide))) dX1_ask_119 rfl ?_
            refine z_aload_n C dX1_ask_120 rfl 0 rfl ?_
            refine z_get (T := TX1) (v := .ref g3) C i_X1_ask_1 0 rfl rfl 2 (by decide) m_X1_ask_7 rfl rfl dX1_ask_121 ?_
            refine z_aload_n C dX1_ask_124 rfl 0 rfl ?_
            refine z_get (T := TX1) (v := .ref g1) C i_X1_ask_1 0 rfl rfl 0 (by decide) m_X1_ask_8 rfl rfl dX1_ask_125 ?_
            refine z_iload C dX1_ask_128 4 rfl ?_
            refine z_ald C 1 rfl (by subst hu78 hu72 hu54; exact (z_ixN e4 (Nat.lt_of_lt_of_le (z_jlt e4 (by omega) (z_tiN hmin (by omega)) c46) hnp) (by decide))) dX1_ask_130 ?_
            refine z_dup2 C dX1_ask_131 rfl rfl ?_
            refine z_ald C 3 rfl (by subst hu78 hu72 hu54; exact (by rw [pk_us]; exact fm_in _)) dX1_ask_132 ?_
            refine z_iconst (v := (1 : Int32)) C dX1_ask_133 (by decide) ?_
            refine z_iadd C dX1_ask_134 ?_
            refine z_ast C [(h1, .inr (1, [.ref g1, .ref g2, .ref g3, .int (if (9 : Int32) < pn then (9 : Int32) else pn), .int lw])), (g1, .inl (cI, 9, .inl (upd sh_40 x4_40.toNatClampNeg u78))), (g2, .inl (cI, 9, .inl (upd wa_40 x4_40.toNatClampNeg (6 : Int32)))), (g3, .inl (cI, 6, .inl (upd sp_40 ((upd sh_40 x4_40.toNatClampNeg u78) x4_40.toNatClampNeg).toNatClampNeg ((sp_40 ((upd sh_40 x4_40.toNatClampNeg u78) x4_40.toNatClampNeg).toNatClampNeg) + (1 : Int32))))), (h4, .inr (4, [.ref a1, .ref a2, .ref a3, .int pn, .int sl, .int dr, .int nw])), (a1, .inl (cI, 9, .inl kd)), (a2, .inl (cI, 9, .inl bd)), (a3, .inl (cI, 9, .inl yr)), (h3, .inr (3, [.ref b1, .int ln, .int lg])), (b1, .inl (cI, 60, .inl cl))] 3 rfl (by subst hu78 hu72 hu54; exact (by rw [pk_us]; exact fm_in _)) dX1_ask_135 rfl ?_
            refine z_iinc (v := (x4_40 + (1 : Int32))) C [(0, .ref h1), (1, .ref h4), (2, .ref h3), (3, .int ti), (4, .int (x4_40 + (1 : Int32))), (5, .int u54)] dX1_ask_136 4 rfl (by rfl) (by decide) [1, 2, 3, 4, 0, 5] rfl ?_
            refine z_goto (tgt := 40) C dX1_ask_139 (by decide) ?_
            refine z_ls [(0, .ref h1), (1, .ref h4), (2, .ref h3), (3, .int ti), (4, .int (x4_40 + (1 : Int32)))] [0, 1, 2, 3, 4] rfl ?_
            exact ih40 (j + 1) (x4_40 + (1 : Int32)) (upd sh_40 x4_40.toNatClampNeg u78) (upd wa_40 x4_40.toNatClampNeg (6 : Int32)) (upd sp_40 ((upd sh_40 x4_40.toNatClampNeg u78) x4_40.toNatClampNeg).toNatClampNeg ((sp_40 ((upd sh_40 x4_40.toNatClampNeg u78) x4_40.toNatClampNeg).toNatClampNeg) + (1 : Int32))) (by subst hu78 hu72 hu54; exact (by rw [e4]; exact nI_1 j)) (by subst hu78 hu72 hu54; exact (by have := z_jlt e4 (by omega) (z_tiN hmin (by omega)) c46; omega)) (by omega) (by subst hu78 hu72 hu54; exact (z_wa e4 (by omega) hwi (by first | exact Or.inl rfl | exact Or.inr (fm_in _)))) hf
    exact L40 10 0 (0 : Int32) sh wa sp_16 nI_0.symm (Nat.zero_le _) (by omega) (fun i hi => absurd hi (Nat.not_lt_zero i)) hf
  have L16 : ∀ (d16 : Nat) (j : Nat) (x4_16 : Int32) (sp_16 : Nat → Int32) (e4 : x4_16 = nI j) (hj : j ≤ 6) (hd : 6 < j + d16), F_X1_ask sh wa sp pn sl dr kd bd yr lg cl ti = F_X1_ask_l16 (F_X1_ask_k16 sh wa pn sl dr kd bd yr lg cl ti) d16 x4_16 sp_16 → zG p l e ({ frames := 2, cells := 0, slots := 0, locals := 43 } : Room) s m args below meth c D (zA [(h1, .inr (1, [.ref g1, .ref g2, .ref g3, .int lp, .int lw])), (g1, .inl (cI, 9, .inl sh)), (g2, .inl (cI, 9, .inl wa)), (g3, .inl (cI, 6, .inl sp)), (h4, .inr (4, [.ref a1, .ref a2, .ref a3, .int pn, .int sl, .int dr, .int nw])), (a1, .inl (cI, 9, .inl kd)), (a2, .inl (cI, 9, .inl bd)), (a3, .inl (cI, 9, .inl yr)), (h3, .inr (3, [.ref b1, .int ln, .int lg])), (b1, .inl (cI, 60, .inl cl))]) (zXw (zA [(h1, .inr (1, [.ref g1, .ref g2, .ref g3, .int lp, .int lw])), (g1, .inl (cI, 9, .inl sh)), (g2, .inl (cI, 9, .inl wa)), (g3, .inl (cI, 6, .inl sp)), (h4, .inr (4, [.ref a1, .ref a2, .ref a3, .int pn, .int sl, .int dr, .int nw])), (a1, .inl (cI, 9, .inl kd)), (a2, .inl (cI, 9, .inl bd)), (a3, .inl (cI, 9, .inl yr)), (h3, .inr (3, [.ref b1, .int ln, .int lg])), (b1, .inl (cI, 60, .inl cl))]) s.heap) 6 0 0 (MQ below (zQw D [(h1, .inr (1, [.ref g1, .ref g2, .ref g3, .int ((F_X1_ask sh wa sp pn sl dr kd bd yr lg cl ti).1), .int ((F_X1_ask sh wa sp pn sl dr kd bd yr lg cl ti).2.1)])), (g1, .inl (cI, 9, .inl ((F_X1_ask sh wa sp pn sl dr kd bd yr lg cl ti).2.2.1))), (g2, .inl (cI, 9, .inl ((F_X1_ask sh wa sp pn sl dr kd bd yr lg cl ti).2.2.2.1))), (g3, .inl (cI, 6, .inl ((F_X1_ask sh wa sp pn sl dr kd bd yr lg cl ti).2.2.2.2))), (h4, .inr (4, [.ref a1, .ref a2, .ref a3, .int pn, .int sl, .int dr, .int nw])), (a1, .inl (cI, 9, .inl kd)), (a2, .inl (cI, 9, .inl bd)), (a3, .inl (cI, 9, .inl yr)), (h3, .inr (3, [.ref b1, .int ln, .int lg])), (b1, .inl (cI, 60, .inl cl))] (zA [(h1, .inr (1, [.ref g1, .ref g2, .ref g3, .int lp, .int lw])), (g1, .inl (cI, 9, .inl sh)), (g2, .inl (cI, 9, .inl wa)), (g3, .inl (cI, 6, .inl sp)), (h4, .inr (4, [.ref a1, .ref a2, .ref a3, .int pn, .int sl, .int dr, .int nw])), (a1, .inl (cI, 9, .inl kd)), (a2, .inl (cI, 9, .inl bd)), (a3, .inl (cI, 9, .inl yr)), (h3, .inr (3, [.ref b1, .int ln, .int lg])), (b1, .inl (cI, 60, .inl cl))]) none) args s 0 0 (zA [(h1, .inr (1, [.ref g1, .ref g2, .ref g3, .int lp, .int lw])), (g1, .inl (cI, 9, .inl sh)), (g2, .inl (cI, 9, .inl wa)), (g3, .inl (cI, 6, .inl sp)), (h4, .inr (4, [.ref a1, .ref a2, .ref a3, .int pn, .int sl, .int dr, .int nw])), (a1, .inl (cI, 9, .inl kd)), (a2, .inl (cI, 9, .inl bd)), (a3, .inl (cI, 9, .inl yr)), (h3, .inr (3, [.ref b1, .int ln, .int lg])), (b1, .inl (cI, 60, .inl cl))])) 16 [(0, .ref h1), (1, .ref h4), (2, .ref h3), (3, .int ti), (4, .int x4_16)] [] [(h1, .inr (1, [.ref g1, .ref g2, .ref g3, .int (if (9 : Int32) < pn then (9 : Int32) else pn), .int lw])), (g1, .inl (cI, 9, .inl sh)), (g2, .inl (cI, 9, .inl wa)), (g3, .inl (cI, 6, .inl sp_16)), (h4, .inr (4, [.ref a1, .ref a2, .ref a3, .int pn, .int sl, .int dr, .int nw])), (a1, .inl (cI, 9, .inl kd)), (a2, .inl (cI, 9, .inl bd)), (a3, .inl (cI, 9, .inl yr)), (h3, .inr (3, [.ref b1, .int ln, .int lg])), (b1, .inl (cI, 60, .inl cl))] := by
    intro d16
    induction d16 with
    | zero =>
      intro j x4_16 sp_16 e4 hj hd hf
      exfalso; omega
    | succ d16 ih16 =>
      intro j x4_16 sp_16 e4 hj hd hf
      rw [F_X1_ask_l16] at hf
      skip
      refine z_iload C dX1_ask_16 4 rfl ?_
      refine z_bipush (v := (6 : Int32)) C dX1_ask_18 (by decide) ?_
      refine z_icmp_ge (tgt := 37) C dX1_ask_20 (by decide) (fun c20 => ?_) (fun c20 => ?_)
      · rw [if_pos c20] at hf
        exact X16 x4_16 sp_16  hf
      · rw [if_neg c20] at hf
        refine z_aload_n C dX1_ask_23 rfl 0 rfl ?_
        refine z_get (T := TX1) (v := .ref g3) C i_X1_ask_1 0 rfl rfl 2 (by decide) m_X1_ask_7 rfl rfl dX1_ask_24 ?_
        refine z_iload C dX1_ask_27 4 rfl ?_
        refine z_iconst (v := (0 : Int32)) C dX1_ask_29 (by decide) ?_
        refine z_ast C [(h1, .inr (1, [.ref g1, .ref g2, .ref g3, .int (if (9 : Int32) < pn then (9 : Int32) else pn), .int lw])), (g1, .inl (cI, 9, .inl sh)), (g2, .inl (cI, 9, .inl wa)), (g3, .inl (cI, 6, .inl (upd sp_16 x4_16.toNatClampNeg (0 : Int32)))), (h4, .inr (4, [.ref a1, .ref a2, .ref a3, .int pn, .int sl, .int dr, .int nw])), (a1, .inl (cI, 9, .inl kd)), (a2, .inl (cI, 9, .inl bd)), (a3, .inl (cI, 9, .inl yr)), (h3, .inr (3, [.ref b1, .int ln, .int lg])), (b1, .inl (cI, 60, .inl cl))] 3 rfl (z_ixN e4 (z_jlt e4 (by omega) (by decide) c20) (by decide)) dX1_ask_30 rfl ?_
        refine z_iinc (v := (x4_16 + (1 : Int32))) C [(0, .ref h1), (1, .ref h4), (2, .ref h3), (3, .int ti), (4, .int (x4_16 + (1 : Int32)))] dX1_ask_31 4 rfl (by rfl) (by decide) [1, 2, 3, 4, 0] rfl ?_
        refine z_goto (tgt := 16) C dX1_ask_34 (by decide) ?_
        exact ih16 (j + 1) (x4_16 + (1 : Int32)) (upd sp_16 x4_16.toNatClampNeg (0 : Int32)) (by rw [e4]; exact nI_1 j) (by have := z_jlt (n := 6) e4 (by omega) (by decide) c20; omega) (by omega) hf
  exact L16 7 0 (0 : Int32) sp nI_0.symm (Nat.zero_le _) (by omega) hf
