theorem z_s0 {x : Int32} : x - 0 = x := Int32.sub_zero x
theorem threw_no {pn yn : Int32} {ko bo yo : Nat → Int32} {k b : Int32} (h : (F_X6_threw pn yn ko bo yo k b).1 = 0) : (F_X6_threw pn yn ko bo yo k b).2.1 = pn := by
  rw [F_X6_threw] at h ⊢
  by_cases c : pn = 9
  · rw [if_pos c]
  · rw [if_neg c] at h; exact absurd (show (1 : Int32) = 0 from h) (by decide)
theorem two_e {tf x : Int32} {f0 j : Nat} (hf : tf = nI f0) (e : x = nI j) : tf + (2 : Int32) * x = nI (f0 + 2 * j) := by
  rw [hf, e, show (2 : Int32) = nI 2 from rfl, pk_mul, nI_add]
theorem two_ix {tf x : Int32} {f0 j : Nat} (hf : tf = nI f0) (e : x = nI j) (h : f0 + 2 * j + 1 < 240) : vp_in (tf + (2 : Int32) * x) 240 ∧ vp_in (tf + (2 : Int32) * x + 1) 240 :=
  ⟨z_ixN (two_e hf e) (by omega) (by decide), z_ixN (by rw [two_e hf e]; exact nI_1 _) h (by decide)⟩
theorem beyond_in2 {i n a : Int32} (ha : a.toInt ≤ 60) (h : F_X6_isBeyond i ((2 : Int64) * n.toInt64) a = 0) : ∃ x y : Nat, i = nI x ∧ n = nI y ∧ x + 2 * y ≤ 60 := by
  have h1 := Int32.le_toInt n
  have h2 := Int32.toInt_lt n
  have e2 : ((2 : Int64) * n.toInt64).toInt = 2 * n.toInt := by
    rw [Int64.toInt_mul, l_ti, show (2 : Int64).toInt = 2 by decide]
    apply Int.bmod_eq_of_le <;> omega
  have h3 := (beyond_iff (by rw [e2]; omega) (by rw [e2]; omega)).mp h
  rw [e2] at h3
  obtain ⟨x, hx, ex⟩ := nI_of (x := i) (fun q => by have := (zl_lt (z := 0) (by decide)).mp q; omega)
  obtain ⟨y, hy, ey⟩ := nI_of (x := n) (fun q => by have := (zl_lt (z := 0) (by decide)).mp q; omega)
  rw [ex, nI_toInt hx, ey, nI_toInt hy] at h3
  exact ⟨x, y, ex, ey, by omega⟩
-- X6_centuryBy
theorem i_X6_centuryBy_6 : ∀ w ∈ u_ws RX6 TX6 30, w ∈ wsX6_centuryBy := by decide +kernel
theorem m_X6_centuryBy_2 : Cond.fieldLink RX6 68 "WishPinsModel" "pins" "I" ∈ wsX6_centuryBy := List.mem_of_getElem? (i := 2) rfl
theorem m_X6_centuryBy_3 : Cond.fieldLink RX6 132 "WishPinsModel" "yearNow" "I" ∈ wsX6_centuryBy := List.mem_of_getElem? (i := 3) rfl
theorem m_X6_centuryBy_1 : Cond.fieldLink RX6 52 "WishPinsModel" "sheet" "[I" ∈ wsX6_centuryBy := List.mem_of_getElem? (i := 1) rfl
def F_X6_centuryBy_k253 (w : Int32) (x5_10 : Int32) (pn_10 : Int32) (yn_10 : Int32) (ko_10 : Nat → Int32) (bo_10 : Nat → Int32) (yo_10 : Nat → Int32) (x6_253 : Int32) (x7_253 : Int32) : Int32 × Int32 × Int32 × (Nat → Int32) × (Nat → Int32) × (Nat → Int32) :=
  (if w = 0 then (pn_10, pn_10, yn_10, ko_10, bo_10, yo_10) else (if w = (2 : Int32) then (x5_10, pn_10, yn_10, ko_10, bo_10, yo_10) else (if w = (3 : Int32) then (yn_10, pn_10, yn_10, ko_10, bo_10, yo_10) else (x6_253, pn_10, yn_10, ko_10, bo_10, yo_10))))
def F_X6_centuryBy_l253 (sl : Int32) (dr : Int32) (pn_10 : Int32) (ko_10 : Nat → Int32) (bo_10 : Nat → Int32) (yo_10 : Nat → Int32) (K_ : Int32 → Int32 → Int32 × Int32 × Int32 × (Nat → Int32) × (Nat → Int32) × (Nat → Int32)) : Nat → Int32 → Int32 → Int32 × Int32 × Int32 × (Nat → Int32) × (Nat → Int32) × (Nat → Int32)
  | 0, x6_253, x7_253 => K_ x6_253 x7_253
  | d253 + 1, x6_253, x7_253 => (if pn_10 ≤ x7_253 then (K_ x6_253 x7_253) else (F_X6_centuryBy_l253 sl dr pn_10 ko_10 bo_10 yo_10 K_ d253 (x6_253 ||| ((1 : Int32) <<< ((F_X6_wishOf sl dr ko_10 bo_10 yo_10 x7_253) &&& 31))) (x7_253 + (1 : Int32))))
def F_X6_centuryBy_k10 (sl : Int32) (dr : Int32) (w : Int32) (x4_10 : Int32) (x5_10 : Int32) (x6_10 : Int32) (pn_10 : Int32) (yn_10 : Int32) (ko_10 : Nat → Int32) (bo_10 : Nat → Int32) (yo_10 : Nat → Int32) : Int32 × Int32 × Int32 × (Nat → Int32) × (Nat → Int32) × (Nat → Int32) :=
  (if w = (1 : Int32) then (x4_10, pn_10, yn_10, ko_10, bo_10, yo_10) else (if x4_10 < 0 then (if w < (10 : Int32) then (F_X6_centuryBy_l253 sl dr pn_10 ko_10 bo_10 yo_10 (F_X6_centuryBy_k253 w x5_10 pn_10 yn_10 ko_10 bo_10 yo_10) 10 (0 : Int32) (0 : Int32)) else (if (F_X6_noPin pn_10 (w - (10 : Int32))) = 0 then ((F_X6_wishOf sl dr ko_10 bo_10 yo_10 (w - (10 : Int32))), pn_10, yn_10, ko_10, bo_10, yo_10) else ((-9 : Int32), pn_10, yn_10, ko_10, bo_10, yo_10))) else (((-100 : Int32) - x4_10), pn_10, yn_10, ko_10, bo_10, yo_10)))
def F_X6_centuryBy_l10 (sl : Int32) (dr : Int32) (sh : Nat → Int32) (tf : Int32) (tn : Int32) (K_ : Int32 → Int32 → Int32 → Int32 → Int32 → (Nat → Int32) → (Nat → Int32) → (Nat → Int32) → Int32 × Int32 × Int32 × (Nat → Int32) × (Nat → Int32) × (Nat → Int32)) : Nat → Int32 → Int32 → Int32 → Int32 → Int32 → (Nat → Int32) → (Nat → Int32) → (Nat → Int32) → Int32 × Int32 × Int32 × (Nat → Int32) × (Nat → Int32) × (Nat → Int32)
  | 0, x4_10, x5_10, x6_10, pn_10, yn_10, ko_10, bo_10, yo_10 => K_ x4_10 x5_10 x6_10 pn_10 yn_10 ko_10 bo_10 yo_10
  | d10 + 1, x4_10, x5_10, x6_10, pn_10, yn_10, ko_10, bo_10, yo_10 => (if tn ≤ x6_10 then (K_ x4_10 x5_10 x6_10 pn_10 yn_10 ko_10 bo_10 yo_10) else (if 0 ≤ x4_10 then (K_ x4_10 x5_10 x6_10 pn_10 yn_10 ko_10 bo_10 yo_10) else (if (3 : Int32) ≤ (sh ((tf + ((2 : Int32) * x6_10)) + (1 : Int32)).toNatClampNeg) then (if (sh ((tf + ((2 : Int32) * x6_10)) + (1 : Int32)).toNatClampNeg) = (3 : Int32) then (F_X6_centuryBy_l10 sl dr sh tf tn K_ d10 (-9 : Int32) (x5_10 + (0 : Int32)) (x6_10 + (1 : Int32)) (pn_10 - (0 : Int32)) (yn_10 + (sh (tf + ((2 : Int32) * x6_10)).toNatClampNeg)) ko_10 bo_10 yo_10) else (if pn_10 ≤ (1 : Int32) then (if (sh ((tf + ((2 : Int32) * x6_10)) + (1 : Int32)).toNatClampNeg) = (4 : Int32) then (F_X6_centuryBy_l10 sl dr sh tf tn K_ d10 x6_10 (x5_10 + (0 : Int32)) (x6_10 + (1 : Int32)) (pn_10 - (0 : Int32)) (yn_10 + (0 : Int32)) ko_10 bo_10 yo_10) else (F_X6_centuryBy_l10 sl dr sh tf tn K_ d10 x6_10 (x5_10 + (0 : Int32)) (x6_10 + (1 : Int32)) (pn_10 - (0 : Int32)) (yn_10 + (0 : Int32)) ko_10 bo_10 yo_10)) else (if (sh ((tf + ((2 : Int32) * x6_10)) + (1 : Int32)).toNatClampNeg) = (4 : Int32) then (F_X6_centuryBy_l10 sl dr sh tf tn K_ d10 (-9 : Int32) (x5_10 + (0 : Int32)) (x6_10 + (1 : Int32)) (pn_10 - (1 : Int32)) (yn_10 + (0 : Int32)) ko_10 bo_10 yo_10) else (F_X6_centuryBy_l10 sl dr sh tf tn K_ d10 (-9 : Int32) (x5_10 + (0 : Int32)) (x6_10 + (1 : Int32)) (pn_10 - (0 : Int32)) (yn_10 + (0 : Int32)) ko_10 bo_10 yo_10)))) else (if (F_X6_threw pn_10 yn_10 ko_10 bo_10 yo_10 (sh ((tf + ((2 : Int32) * x6_10)) + (1 : Int32)).toNatClampNeg) (sh (tf + ((2 : Int32) * x6_10)).toNatClampNeg)).1 = 0 then (F_X6_centuryBy_l10 sl dr sh tf tn K_ d10 x6_10 (x5_10 + (0 : Int32)) (x6_10 + (1 : Int32)) ((F_X6_threw pn_10 yn_10 ko_10 bo_10 yo_10 (sh ((tf + ((2 : Int32) * x6_10)) + (1 : Int32)).toNatClampNeg) (sh (tf + ((2 : Int32) * x6_10)).toNatClampNeg)).2.1 - (0 : Int32)) (yn_10 + (0 : Int32)) (F_X6_threw pn_10 yn_10 ko_10 bo_10 yo_10 (sh ((tf + ((2 : Int32) * x6_10)) + (1 : Int32)).toNatClampNeg) (sh (tf + ((2 : Int32) * x6_10)).toNatClampNeg)).2.2.1 (F_X6_threw pn_10 yn_10 ko_10 bo_10 yo_10 (sh ((tf + ((2 : Int32) * x6_10)) + (1 : Int32)).toNatClampNeg) (sh (tf + ((2 : Int32) * x6_10)).toNatClampNeg)).2.2.2.1 (F_X6_threw pn_10 yn_10 ko_10 bo_10 yo_10 (sh ((tf + ((2 : Int32) * x6_10)) + (1 : Int32)).toNatClampNeg) (sh (tf + ((2 : Int32) * x6_10)).toNatClampNeg)).2.2.2.2) else (if (F_X6_wishOf sl dr (F_X6_threw pn_10 yn_10 ko_10 bo_10 yo_10 (sh ((tf + ((2 : Int32) * x6_10)) + (1 : Int32)).toNatClampNeg) (sh (tf + ((2 : Int32) * x6_10)).toNatClampNeg)).2.2.1 (F_X6_threw pn_10 yn_10 ko_10 bo_10 yo_10 (sh ((tf + ((2 : Int32) * x6_10)) + (1 : Int32)).toNatClampNeg) (sh (tf + ((2 : Int32) * x6_10)).toNatClampNeg)).2.2.2.1 (F_X6_threw pn_10 yn_10 ko_10 bo_10 yo_10 (sh ((tf + ((2 : Int32) * x6_10)) + (1 : Int32)).toNatClampNeg) (sh (tf + ((2 : Int32) * x6_10)).toNatClampNeg)).2.2.2.2 ((F_X6_threw pn_10 yn_10 ko_10 bo_10 yo_10 (sh ((tf + ((2 : Int32) * x6_10)) + (1 : Int32)).toNatClampNeg) (sh (tf + ((2 : Int32) * x6_10)).toNatClampNeg)).2.1 - (1 : Int32))) = (F_X6_wishOf sl dr (F_X6_threw pn_10 yn_10 ko_10 bo_10 yo_10 (sh ((tf + ((2 : Int32) * x6_10)) + (1 : Int32)).toNatClampNeg) (sh (tf + ((2 : Int32) * x6_10)).toNatClampNeg)).2.2.1 (F_X6_threw pn_10 yn_10 ko_10 bo_10 yo_10 (sh ((tf + ((2 : Int32) * x6_10)) + (1 : Int32)).toNatClampNeg) (sh (tf + ((2 : Int32) * x6_10)).toNatClampNeg)).2.2.2.1 (F_X6_threw pn_10 yn_10 ko_10 bo_10 yo_10 (sh ((tf + ((2 : Int32) * x6_10)) + (1 : Int32)).toNatClampNeg) (sh (tf + ((2 : Int32) * x6_10)).toNatClampNeg)).2.2.2.2 ((F_X6_threw pn_10 yn_10 ko_10 bo_10 yo_10 (sh ((tf + ((2 : Int32) * x6_10)) + (1 : Int32)).toNatClampNeg) (sh (tf + ((2 : Int32) * x6_10)).toNatClampNeg)).2.1 - (2 : Int32))) then (F_X6_centuryBy_l10 sl dr sh tf tn K_ d10 (-9 : Int32) (x5_10 + (1 : Int32)) (x6_10 + (1 : Int32)) ((F_X6_threw pn_10 yn_10 ko_10 bo_10 yo_10 (sh ((tf + ((2 : Int32) * x6_10)) + (1 : Int32)).toNatClampNeg) (sh (tf + ((2 : Int32) * x6_10)).toNatClampNeg)).2.1 - (0 : Int32)) (yn_10 + (0 : Int32)) (F_X6_threw pn_10 yn_10 ko_10 bo_10 yo_10 (sh ((tf + ((2 : Int32) * x6_10)) + (1 : Int32)).toNatClampNeg) (sh (tf + ((2 : Int32) * x6_10)).toNatClampNeg)).2.2.1 (F_X6_threw pn_10 yn_10 ko_10 bo_10 yo_10 (sh ((tf + ((2 : Int32) * x6_10)) + (1 : Int32)).toNatClampNeg) (sh (tf + ((2 : Int32) * x6_10)).toNatClampNeg)).2.2.2.1 (F_X6_threw pn_10 yn_10 ko_10 bo_10 yo_10 (sh ((tf + ((2 : Int32) * x6_10)) + (1 : Int32)).toNatClampNeg) (sh (tf + ((2 : Int32) * x6_10)).toNatClampNeg)).2.2.2.2) else (F_X6_centuryBy_l10 sl dr sh tf tn K_ d10 (-9 : Int32) (x5_10 + (0 : Int32)) (x6_10 + (1 : Int32)) ((F_X6_threw pn_10 yn_10 ko_10 bo_10 yo_10 (sh ((tf + ((2 : Int32) * x6_10)) + (1 : Int32)).toNatClampNeg) (sh (tf + ((2 : Int32) * x6_10)).toNatClampNeg)).2.1 - (0 : Int32)) (yn_10 + (0 : Int32)) (F_X6_threw pn_10 yn_10 ko_10 bo_10 yo_10 (sh ((tf + ((2 : Int32) * x6_10)) + (1 : Int32)).toNatClampNeg) (sh (tf + ((2 : Int32) * x6_10)).toNatClampNeg)).2.2.1 (F_X6_threw pn_10 yn_10 ko_10 bo_10 yo_10 (sh ((tf + ((2 : Int32) * x6_10)) + (1 : Int32)).toNatClampNeg) (sh (tf + ((2 : Int32) * x6_10)).toNatClampNeg)).2.2.2.1 (F_X6_threw pn_10 yn_10 ko_10 bo_10 yo_10 (sh ((tf + ((2 : Int32) * x6_10)) + (1 : Int32)).toNatClampNeg) (sh (tf + ((2 : Int32) * x6_10)).toNatClampNeg)).2.2.2.2))))))
def F_X6_centuryBy (pn : Int32) (sl : Int32) (dr : Int32) (yn : Int32) (ko : Nat → Int32) (bo : Nat → Int32) (yo : Nat → Int32) (sh : Nat → Int32) (tf : Int32) (tn : Int32) (w : Int32) : Int32 × Int32 × Int32 × (Nat → Int32) × (Nat → Int32) × (Nat → Int32) :=
  (F_X6_centuryBy_l10 sl dr sh tf tn (F_X6_centuryBy_k10 sl dr w) 31 (-9 : Int32) (0 : Int32) (0 : Int32) pn yn ko bo yo)
set_option maxHeartbeats 4000000 in
set_option maxRecDepth 100000 in
theorem c_X6_centuryBy (l : Launch) (D : va_G) (cI cO : ClassId) (h6 : Nat) (q : Nat → Nat) (fl : Int32) (pn : Int32) (sl : Int32) (dr : Int32) (yn : Int32) (ra : Int32) (rp : Int32) (rs : Int32) (rd : Int32) (ry : Int32) (pk : Int32) (yk : Int32) (rg : Int32) (tc : Int32) (ko : Nat → Int32) (bo : Nat → Int32) (yo : Nat → Int32) (sh : Nat → Int32) (tf : Int32) (tn : Int32) (w : Int32) (np : Nat) (f0 : Nat) (n0 : Nat) (hpn : pn = nI np) (hnp : np ≤ 9) (hnp1 : 1 ≤ np) (hf0 : tf = nI f0) (hn0 : tn = nI n0) (hfn : f0 + 2 * n0 ≤ 240) (hn30 : n0 ≤ 30) : zW l yX6_centuryBy wsX6_centuryBy ({ frames := 3, cells := 0, slots := 0, locals := 63 } : Room) D cI cO [.ref h6, .int tf, .int tn, .int w] [(h6, .inr (6, fM fl pn sl dr yn ra rp rs rd ry pk yk rg tc q)), ((q 5), .inl (cI, 9, .inl ko)), ((q 6), .inl (cI, 9, .inl bo)), ((q 7), .inl (cI, 9, .inl yo)), ((q 27), .inl (cI, 240, .inl sh))] [(h6, .inr (6, fM fl ((F_X6_centuryBy pn sl dr yn ko bo yo sh tf tn w).2.1) sl dr ((F_X6_centuryBy pn sl dr yn ko bo yo sh tf tn w).2.2.1) ra rp rs rd ry pk yk rg tc q)), ((q 5), .inl (cI, 9, .inl ((F_X6_centuryBy pn sl dr yn ko bo yo sh tf tn w).2.2.2.1))), ((q 6), .inl (cI, 9, .inl ((F_X6_centuryBy pn sl dr yn ko bo yo sh tf tn w).2.2.2.2.1))), ((q 7), .inl (cI, 9, .inl ((F_X6_centuryBy pn sl dr yn ko bo yo sh tf tn w).2.2.2.2.2))), ((q 27), .inl (cI, 240, .inl sh))] (some (.int ((F_X6_centuryBy pn sl dr yn ko bo yo sh tf tn w).1))) := by
  refine zW_of (nL := 10) (cc := cX6_centuryBy) (ret := some .int) (lv := [(0, .ref h6), (1, .int tf), (2, .int tn), (3, .int w)]) (by decide +kernel) rfl (Nat.le_of_ble_eq_true rfl) rfl (fun p e s m args below meth c C hr hlk => ?_)
  have hf := F_X6_centuryBy.eq_1 pn sl dr yn ko bo yo sh tf tn w
  refine z_bipush (v := (-9 : Int32)) C dX6_centuryBy_0 (by decide) ?_
  refine z_istore C [(0, .ref h6), (1, .int tf), (2, .int tn), (3, .int w), (4, .int (-9 : Int32))] dX6_centuryBy_2 (by decide) [1, 2, 3, 4, 0] rfl ?_
  refine z_iconst (v := (0 : Int32)) C dX6_centuryBy_4 (by decide) ?_
  refine z_istore C [(0, .ref h6), (1, .int tf), (2, .int tn), (3, .int w), (4, .int (-9 : Int32)), (5, .int (0 : Int32))] dX6_centuryBy_5 (by decide) [1, 2, 3, 4, 5, 0] rfl ?_
  refine z_iconst (v := (0 : Int32)) C dX6_centuryBy_7 (by decide) ?_
  refine z_istore C [(0, .ref h6), (1, .int tf), (2, .int tn), (3, .int w), (4, .int (-9 : Int32)), (5, .int (0 : Int32)), (6, .int (0 : Int32))] dX6_centuryBy_8 (by decide) [1, 2, 3, 4, 5, 6, 0] rfl ?_
  have X10 : ∀ (x4_10 : Int32) (x5_10 : Int32) (x6_10 : Int32) (pn_10 : Int32) (yn_10 : Int32) (ko_10 : Nat → Int32) (bo_10 : Nat → Int32) (yo_10 : Nat → Int32) (hqx : ∃ q, 1 ≤ q ∧ q ≤ 9 ∧ pn_10 = nI q), F_X6_centuryBy pn sl dr yn ko bo yo sh tf tn w = (F_X6_centuryBy_k10 sl dr w) x4_10 x5_10 x6_10 pn_10 yn_10 ko_10 bo_10 yo_10 → zG p l e ({ frames := 3, cells := 0, slots := 0, locals := 63 } : Room) s m args below meth c D (zA [(h6, .inr (6, fM fl pn sl dr yn ra rp rs rd ry pk yk rg tc q)), ((q 5), .inl (cI, 9, .inl ko)), ((q 6), .inl (cI, 9, .inl bo)), ((q 7), .inl (cI, 9, .inl yo)), ((q 27), .inl (cI, 240, .inl sh))]) (zXw (zA [(h6, .inr (6, fM fl pn sl dr yn ra rp rs rd ry pk yk rg tc q)), ((q 5), .inl (cI, 9, .inl ko)), ((q 6), .inl (cI, 9, .inl bo)), ((q 7), .inl (cI, 9, .inl yo)), ((q 27), .inl (cI, 240, .inl sh))]) s.heap) 10 0 0 (MQ below (zQw D [(h6, .inr (6, fM fl ((F_X6_centuryBy pn sl dr yn ko bo yo sh tf tn w).2.1) sl dr ((F_X6_centuryBy pn sl dr yn ko bo yo sh tf tn w).2.2.1) ra rp rs rd ry pk yk rg tc q)), ((q 5), .inl (cI, 9, .inl ((F_X6_centuryBy pn sl dr yn ko bo yo sh tf tn w).2.2.2.1))), ((q 6), .inl (cI, 9, .inl ((F_X6_centuryBy pn sl dr yn ko bo yo sh tf tn w).2.2.2.2.1))), ((q 7), .inl (cI, 9, .inl ((F_X6_centuryBy pn sl dr yn ko bo yo sh tf tn w).2.2.2.2.2))), ((q 27), .inl (cI, 240, .inl sh))] (zA [(h6, .inr (6, fM fl pn sl dr yn ra rp rs rd ry pk yk rg tc q)), ((q 5), .inl (cI, 9, .inl ko)), ((q 6), .inl (cI, 9, .inl bo)), ((q 7), .inl (cI, 9, .inl yo)), ((q 27), .inl (cI, 240, .inl sh))]) (some (.int ((F_X6_centuryBy pn sl dr yn ko bo yo sh tf tn w).1)))) args s 0 0 (zA [(h6, .inr (6, fM fl pn sl dr yn ra rp rs rd ry pk yk rg tc q)), ((q 5), .inl (cI, 9, .inl ko)), ((q 6), .inl (cI, 9, .inl bo)), ((q 7), .inl (cI, 9, .inl yo)), ((q 27), .inl (cI, 240, .inl sh))])) 197 [(0, .ref h6), (1, .int tf), (2, .int tn), (3, .int w), (4, .int x4_10), (5, .int x5_10), (6, .int x6_10)] [] [(h6, .inr (6, fM fl pn_10 sl dr yn_10 ra rp rs rd ry pk yk rg tc q)), ((q 5), .inl (cI, 9, .inl ko_10)), ((q 6), .inl (cI, 9, .inl bo_10)), ((q 7), .inl (cI, 9, .inl yo_10)), ((q 27), .inl (cI, 240, .inl sh))] := by
    intro x4_10 x5_10 x6_10 pn_10 yn_10 ko_10 bo_10 yo_10 hqx hf
    rw [F_X6_centuryBy_k10] at hf
    skip
    obtain ⟨q1, hq11, hq19, hpq1⟩ := hqx
    refine z_iload_n C dX6_centuryBy_197 rfl 3 rfl ?_
    refine z_iconst (v := (1 : Int32)) C dX6_centuryBy_198 (by decide) ?_
    refine z_icmp_ne (tgt := 205) C dX6_centuryBy_199 (by decide) (fun c199 => ?_) (fun c199 => ?_)
    · rw [if_neg c199] at hf
      refine z_iload C dX6_centuryBy_205 4 rfl ?_
      refine z_if_lt (tgt := 216) C dX6_centuryBy_207 (by decide) (fun c207 => ?_) (fun c207 => ?_)
      · rw [if_pos c207] at hf
        refine z_iload_n C dX6_centuryBy_216 rfl 3 rfl ?_
        refine z_bipush (v := (10 : Int32)) C dX6_centuryBy_217 (by decide) ?_
        refine z_icmp_lt (tgt := 247) C dX6_centuryBy_219 (by decide) (fun c219 => ?_) (fun c219 => ?_)
        · rw [if_pos c219] at hf
          refine z_iconst (v := (0 : Int32)) C dX6_centuryBy_247 (by decide) ?_
          refine z_istore C [(0, .ref h6), (1, .int tf), (2, .int tn), (3, .int w), (4, .int x4_10), (5, .int x5_10), (6, .int (0 : Int32))] dX6_centuryBy_248 (by decide) [1, 2, 3, 4, 5, 6, 0] rfl ?_
          refine z_iconst (v := (0 : Int32)) C dX6_centuryBy_250 (by decide) ?_
          refine z_istore C [(0, .ref h6), (1, .int tf), (2, .int tn), (3, .int w), (4, .int x4_10), (5, .int x5_10), (6, .int (0 : Int32)), (7, .int (0 : Int32))] dX6_centuryBy_251 (by decide) [1, 2, 3, 4, 5, 6, 7, 0] rfl ?_
          have X253 : ∀ (x6_253 : Int32) (x7_253 : Int32), F_X6_centuryBy pn sl dr yn ko bo yo sh tf tn w = (F_X6_centuryBy_k253 w x5_10 pn_10 yn_10 ko_10 bo_10 yo_10) x6_253 x7_253 → zG p l e ({ frames := 3, cells := 0, slots := 0, locals := 63 } : Room) s m args below meth c D (zA [(h6, .inr (6, fM fl pn sl dr yn ra rp rs rd ry pk yk rg tc q)), ((q 5), .inl (cI, 9, .inl ko)), ((q 6), .inl (cI, 9, .inl bo)), ((q 7), .inl (cI, 9, .inl yo)), ((q 27), .inl (cI, 240, .inl sh))]) (zXw (zA [(h6, .inr (6, fM fl pn sl dr yn ra rp rs rd ry pk yk rg tc q)), ((q 5), .inl (cI, 9, .inl ko)), ((q 6), .inl (cI, 9, .inl bo)), ((q 7), .inl (cI, 9, .inl yo)), ((q 27), .inl (cI, 240, .inl sh))]) s.heap) 10 0 0 (MQ below (zQw D [(h6, .inr (6, fM fl ((F_X6_centuryBy pn sl dr yn ko bo yo sh tf tn w).2.1) sl dr ((F_X6_centuryBy pn sl dr yn ko bo yo sh tf tn w).2.2.1) ra rp rs rd ry pk yk rg tc q)), ((q 5), .inl (cI, 9, .inl ((F_X6_centuryBy pn sl dr yn ko bo yo sh tf tn w).2.2.2.1))), ((q 6), .inl (cI, 9, .inl ((F_X6_centuryBy pn sl dr yn ko bo yo sh tf tn w).2.2.2.2.1))), ((q 7), .inl (cI, 9, .inl ((F_X6_centuryBy pn sl dr yn ko bo yo sh tf tn w).2.2.2.2.2))), ((q 27), .inl (cI, 240, .inl sh))] (zA [(h6, .inr (6, fM fl pn sl dr yn ra rp rs rd ry pk yk rg tc q)), ((q 5), .inl (cI, 9, .inl ko)), ((q 6), .inl (cI, 9, .inl bo)), ((q 7), .inl (cI, 9, .inl yo)), ((q 27), .inl (cI, 240, .inl sh))]) (some (.int ((F_X6_centuryBy pn sl dr yn ko bo yo sh tf tn w).1)))) args s 0 0 (zA [(h6, .inr (6, fM fl pn sl dr yn ra rp rs rd ry pk yk rg tc q)), ((q 5), .inl (cI, 9, .inl ko)), ((q 6), .inl (cI, 9, .inl bo)), ((q 7), .inl (cI, 9, .inl yo)), ((q 27), .inl (cI, 240, .inl sh))])) 281 [(0, .ref h6), (1, .int tf), (2, .int tn), (3, .int w), (4, .int x4_10), (5, .int x5_10), (6, .int x6_253), (7, .int x7_253)] [] [(h6, .inr (6, fM fl pn_10 sl dr yn_10 ra rp rs rd ry pk yk rg tc q)), ((q 5), .inl (cI, 9, .inl ko_10)), ((q 6), .inl (cI, 9, .inl bo_10)), ((q 7), .inl (cI, 9, .inl yo_10)), ((q 27), .inl (cI, 240, .inl sh))] := by
            intro x6_253 x7_253 hf
            rw [F_X6_centuryBy_k253] at hf
            skip
            refine z_iload_n C dX6_centuryBy_281 rfl 3 rfl ?_
            refine z_if_ne (tgt := 292) C dX6_centuryBy_282 (by decide) (fun c282 => ?_) (fun c282 => ?_)
            · rw [if_neg c282] at hf
              refine z_iload_n C dX6_centuryBy_292 rfl 3 rfl ?_
              refine z_iconst (v := (2 : Int32)) C dX6_centuryBy_293 (by decide) ?_
              refine z_icmp_ne (tgt := 302) C dX6_centuryBy_294 (by decide) (fun c294 => ?_) (fun c294 => ?_)
              · rw [if_neg c294] at hf
                refine z_iload_n C dX6_centuryBy_302 rfl 3 rfl ?_
                refine z_iconst (v := (3 : Int32)) C dX6_centuryBy_303 (by decide) ?_
                refine z_icmp_ne (tgt := 314) C dX6_centuryBy_304 (by decide) (fun c304 => ?_) (fun c304 => ?_)
                · rw [if_neg c304] at hf
                  refine z_iload C dX6_centuryBy_314 6 rfl ?_
                  exact z_iretW C hr hlk (by rw [hf]) (by rw [hf]) dX6_centuryBy_316
                · rw [if_pos c304] at hf
                  refine z_aload_n C dX6_centuryBy_307 rfl 0 rfl ?_
                  refine z_get (T := TX6) (v := .int yn_10) C i_X6_centuryBy_6 0 rfl rfl 4 (by decide) m_X6_centuryBy_3 rfl rfl dX6_centuryBy_308 ?_
                  refine z_goto (tgt := 316) C dX6_centuryBy_311 (by decide) ?_
                  exact z_iretW C hr hlk (by rw [hf]) (by rw [hf]) dX6_centuryBy_316
              · rw [if_pos c294] at hf
                refine z_iload C dX6_centuryBy_297 5 rfl ?_
                refine z_goto (tgt := 316) C dX6_centuryBy_299 (by decide) ?_
                exact z_iretW C hr hlk (by rw [hf]) (by rw [hf]) dX6_centuryBy_316
            · rw [if_pos c282] at hf
              refine z_aload_n C dX6_centuryBy_285 rfl 0 rfl ?_
              refine z_get (T := TX6) (v := .int pn_10) C i_X6_centuryBy_6 0 rfl rfl 1 (by decide) m_X6_centuryBy_2 rfl rfl dX6_centuryBy_286 ?_
              refine z_goto (tgt := 316) C dX6_centuryBy_289 (by decide) ?_
              exact z_iretW C hr hlk (by rw [hf]) (by rw [hf]) dX6_centuryBy_316
          have L253 : ∀ (d253 : Nat) (j : Nat) (x6_253 : Int32) (x7_253 : Int32) (e7 : x7_253 = nI j) (hj : j ≤ q1) (hd : q1 < j + d253), F_X6_centuryBy pn sl dr yn ko bo yo sh tf tn w = F_X6_centuryBy_l253 sl dr pn_10 ko_10 bo_10 yo_10 (F_X6_centuryBy_k253 w x5_10 pn_10 yn_10 ko_10 bo_10 yo_10) d253 x6_253 x7_253 → zG p l e ({ frames := 3, cells := 0, slots := 0, locals := 63 } : Room) s m args below meth c D (zA [(h6, .inr (6, fM fl pn sl dr yn ra rp rs rd ry pk yk rg tc q)), ((q 5), .inl (cI, 9, .inl ko)), ((q 6), .inl (cI, 9, .inl bo)), ((q 7), .inl (cI, 9, .inl yo)), ((q 27), .inl (cI, 240, .inl sh))]) (zXw (zA [(h6, .inr (6, fM fl pn sl dr yn ra rp rs rd ry pk yk rg tc q)), ((q 5), .inl (cI, 9, .inl ko)), ((q 6), .inl (cI, 9, .inl bo)), ((q 7), .inl (cI, 9, .inl yo)), ((q 27), .inl (cI, 240, .inl sh))]) s.heap) 10 0 0 (MQ below (zQw D [(h6, .inr (6, fM fl ((F_X6_centuryBy pn sl dr yn ko bo yo sh tf tn w).2.1) sl dr ((F_X6_centuryBy pn sl dr yn ko bo yo sh tf tn w).2.2.1) ra rp rs rd ry pk yk rg tc q)), ((q 5), .inl (cI, 9, .inl ((F_X6_centuryBy pn sl dr yn ko bo yo sh tf tn w).2.2.2.1))), ((q 6), .inl (cI, 9, .inl ((F_X6_centuryBy pn sl dr yn ko bo yo sh tf tn w).2.2.2.2.1))), ((q 7), .inl (cI, 9, .inl ((F_X6_centuryBy pn sl dr yn ko bo yo sh tf tn w).2.2.2.2.2))), ((q 27), .inl (cI, 240, .inl sh))] (zA [(h6, .inr (6, fM fl pn sl dr yn ra rp rs rd ry pk yk rg tc q)), ((q 5), .inl (cI, 9, .inl ko)), ((q 6), .inl (cI, 9, .inl bo)), ((q 7), .inl (cI, 9, .inl yo)), ((q 27), .inl (cI, 240, .inl sh))]) (some (.int ((F_X6_centuryBy pn sl dr yn ko bo yo sh tf tn w).1)))) args s 0 0 (zA [(h6, .inr (6, fM fl pn sl dr yn ra rp rs rd ry pk yk rg tc q)), ((q 5), .inl (cI, 9, .inl ko)), ((q 6), .inl (cI, 9, .inl bo)), ((q 7), .inl (cI, 9, .inl yo)), ((q 27), .inl (cI, 240, .inl sh))])) 253 [(0, .ref h6), (1, .int tf), (2, .int tn), (3, .int w), (4, .int x4_10), (5, .int x5_10), (6, .int x6_253), (7, .int x7_253)] [] [(h6, .inr (6, fM fl pn_10 sl dr yn_10 ra rp rs rd ry pk yk rg tc q)), ((q 5), .inl (cI, 9, .inl ko_10)), ((q 6), .inl (cI, 9, .inl bo_10)), ((q 7), .inl (cI, 9, .inl yo_10)), ((q 27), .inl (cI, 240, .inl sh))] := by
            intro d253
            induction d253 with
            | zero =>
              intro j x6_253 x7_253 e7 hj hd hf
              exfalso; omega
            | succ d253 ih253 =>
              intro j x6_253 x7_253 e7 hj hd hf
              rw [F_X6_centuryBy_l253] at hf
              skip
              refine z_iload C dX6_centuryBy_253 7 rfl ?_
              refine z_aload_n C dX6_centuryBy_255 rfl 0 rfl ?_
              refine z_get (T := TX6) (v := .int pn_10) C i_X6_centuryBy_6 0 rfl rfl 1 (by decide) m_X6_centuryBy_2 rfl rfl dX6_centuryBy_256 ?_
              refine z_icmp_ge (tgt := 281) C dX6_centuryBy_259 (by decide) (fun c259 => ?_) (fun c259 => ?_)
              · rw [if_pos c259] at hf
                exact X253 x6_253 x7_253  hf
              · rw [if_neg c259] at hf
                refine z_iload C dX6_centuryBy_262 6 rfl ?_
                refine z_iconst (v := (1 : Int32)) C dX6_centuryBy_264 (by decide) ?_
                refine z_aload_n C dX6_centuryBy_265 rfl 0 rfl ?_
                refine z_iload C dX6_centuryBy_266 7 rfl ?_
                refine z_cVR (As := [.int x7_253]) C (c_X6_wishOf l D cI cO h6 q fl pn_10 sl dr yn_10 ra rp rs rd ry pk yk rg tc ko_10 bo_10 yo_10 x7_253 (z_ix9 e7 (by have := z_jlt e7 (by omega) (z_tiN hpq1 (by omega)) c259; omega))) (cwV 1 C.2.2.2.2.1 gX6_centuryBy_X6_wishOf rfl rfl rfl hdV_X6_wishOf ⟨Nat.le_of_ble_eq_true rfl, Nat.le_of_ble_eq_true rfl⟩) [0, 1, 2, 3] rfl rfl 0 rfl rfl rfl _ rfl (Nat.le_of_ble_eq_true rfl) ⟨Nat.zero_le _, Nat.zero_le _⟩ dX6_centuryBy_268 ?_
                generalize hu268 : (F_X6_wishOf sl dr ko_10 bo_10 yo_10 x7_253) = u268 at hf ⊢
                refine z_ishl C dX6_centuryBy_271 ?_
                refine z_ior C dX6_centuryBy_272 ?_
                refine z_istore C [(0, .ref h6), (1, .int tf), (2, .int tn), (3, .int w), (4, .int x4_10), (5, .int x5_10), (6, .int (x6_253 ||| ((1 : Int32) <<< (u268 &&& 31)))), (7, .int x7_253)] dX6_centuryBy_273 (by decide) [1, 2, 3, 4, 5, 6, 0, 7] rfl ?_
                refine z_iinc (v := (x7_253 + (1 : Int32))) C [(0, .ref h6), (1, .int tf), (2, .int tn), (3, .int w), (4, .int x4_10), (5, .int x5_10), (6, .int (x6_253 ||| ((1 : Int32) <<< (u268 &&& 31)))), (7, .int (x7_253 + (1 : Int32)))] dX6_centuryBy_275 7 rfl (by rfl) (by decide) [1, 2, 3, 4, 5, 6, 7, 0] rfl ?_
                refine z_goto (tgt := 253) C dX6_centuryBy_278 (by decide) ?_
                exact ih253 (j + 1) (x6_253 ||| ((1 : Int32) <<< (u268 &&& 31))) (x7_253 + (1 : Int32)) (by subst hu268; exact (by rw [e7]; exact nI_1 j)) (by subst hu268; exact (by have := z_jlt e7 (by omega) (z_tiN hpq1 (by omega)) c259; omega)) (by omega) hf
          exact L253 10 0 (0 : Int32) (0 : Int32) nI_0.symm (Nat.zero_le _) (by omega) hf
        · rw [if_neg c219] at hf
          refine z_aload_n C dX6_centuryBy_222 rfl 0 rfl ?_
          refine z_iload_n C dX6_centuryBy_223 rfl 3 rfl ?_
          refine z_bipush (v := (10 : Int32)) C dX6_centuryBy_224 (by decide) ?_
          refine z_isub C dX6_centuryBy_226 ?_
          refine z_cVR (As := [.int (w - (10 : Int32))]) C (c_X6_noPin l D cI cO h6 q fl pn_10 sl dr yn_10 ra rp rs rd ry pk yk rg tc (w - (10 : Int32))) (cwV 1 C.2.2.2.2.1 gX6_centuryBy_X6_noPin rfl rfl rfl hdV_X6_noPin ⟨Nat.le_of_ble_eq_true rfl, Nat.le_of_ble_eq_true rfl⟩) [0] rfl rfl 0 rfl rfl rfl _ rfl (Nat.le_of_ble_eq_true rfl) ⟨Nat.zero_le _, Nat.zero_le _⟩ dX6_centuryBy_227 ?_
          generalize hu227 : (F_X6_noPin pn_10 (w - (10 : Int32))) = u227 at hf ⊢
          refine z_if_eq (tgt := 238) C dX6_centuryBy_230 (by decide) (fun c230 => ?_) (fun c230 => ?_)
          · rw [if_pos c230] at hf
            have b230 := c230
            rw [← hu227] at c230
            refine z_aload_n C dX6_centuryBy_238 rfl 0 rfl ?_
            refine z_iload_n C dX6_centuryBy_239 rfl 3 rfl ?_
            refine z_bipush (v := (10 : Int32)) C dX6_centuryBy_240 (by decide) ?_
            refine z_isub C dX6_centuryBy_242 ?_
            refine z_cVR (As := [.int (w - (10 : Int32))]) C (c_X6_wishOf l D cI cO h6 q fl pn_10 sl dr yn_10 ra rp rs rd ry pk yk rg tc ko_10 bo_10 yo_10 (w - (10 : Int32)) (by subst hu227; exact (noPin_ix hpq1 hq19 c230))) (cwV 1 C.2.2.2.2.1 gX6_centuryBy_X6_wishOf rfl rfl rfl hdV_X6_wishOf ⟨Nat.le_of_ble_eq_true rfl, Nat.le_of_ble_eq_true rfl⟩) [0, 1, 2, 3] rfl rfl 0 rfl rfl rfl _ rfl (Nat.le_of_ble_eq_true rfl) ⟨Nat.zero_le _, Nat.zero_le _⟩ dX6_centuryBy_243 ?_
            generalize hu243 : (F_X6_wishOf sl dr ko_10 bo_10 yo_10 (w - (10 : Int32))) = u243 at hf ⊢
            exact z_iretW C hr hlk (by rw [hf]) (by rw [hf]) dX6_centuryBy_246
          · rw [if_neg c230] at hf
            have b230 := c230
            rw [← hu227] at c230
            refine z_bipush (v := (-9 : Int32)) C dX6_centuryBy_233 (by decide) ?_
            refine z_goto (tgt := 246) C dX6_centuryBy_235 (by decide) ?_
            exact z_iretW C hr hlk (by rw [hf]) (by rw [hf]) dX6_centuryBy_246
      · rw [if_neg c207] at hf
        refine z_bipush (v := (-100 : Int32)) C dX6_centuryBy_210 (by decide) ?_
        refine z_iload C dX6_centuryBy_212 4 rfl ?_
        refine z_isub C dX6_centuryBy_214 ?_
        exact z_iretW C hr hlk (by rw [hf]) (by rw [hf]) dX6_centuryBy_215
    · rw [if_pos c199] at hf
      refine z_iload C dX6_centuryBy_202 4 rfl ?_
      exact z_iretW C hr hlk (by rw [hf]) (by rw [hf]) dX6_centuryBy_204
  have L10 : ∀ (d10 : Nat) (j : Nat) (x4_10 : Int32) (x5_10 : Int32) (x6_10 : Int32) (pn_10 : Int32) (yn_10 : Int32) (ko_10 : Nat → Int32) (bo_10 : Nat → Int32) (yo_10 : Nat → Int32) (e6 : x6_10 = nI j) (hj : j ≤ n0) (hd : n0 < j + d10) (hq : ∃ q, 1 ≤ q ∧ q ≤ 9 ∧ pn_10 = nI q), F_X6_centuryBy pn sl dr yn ko bo yo sh tf tn w = F_X6_centuryBy_l10 sl dr sh tf tn (F_X6_centuryBy_k10 sl dr w) d10 x4_10 x5_10 x6_10 pn_10 yn_10 ko_10 bo_10 yo_10 → zG p l e ({ frames := 3, cells := 0, slots := 0, locals := 63 } : Room) s m args below meth c D (zA [(h6, .inr (6, fM fl pn sl dr yn ra rp rs rd ry pk yk rg tc q)), ((q 5), .inl (cI, 9, .inl ko)), ((q 6), .inl (cI, 9, .inl bo)), ((q 7), .inl (cI, 9, .inl yo)), ((q 27), .inl (cI, 240, .inl sh))]) (zXw (zA [(h6, .inr (6, fM fl pn sl dr yn ra rp rs rd ry pk yk rg tc q)), ((q 5), .inl (cI, 9, .inl ko)), ((q 6), .inl (cI, 9, .inl bo)), ((q 7), .inl (cI, 9, .inl yo)), ((q 27), .inl (cI, 240, .inl sh))]) s.heap) 10 0 0 (MQ below (zQw D [(h6, .inr (6, fM fl ((F_X6_centuryBy pn sl dr yn ko bo yo sh tf tn w).2.1) sl dr ((F_X6_centuryBy pn sl dr yn ko bo yo sh tf tn w).2.2.1) ra rp rs rd ry pk yk rg tc q)), ((q 5), .inl (cI, 9, .inl ((F_X6_centuryBy pn sl dr yn ko bo yo sh tf tn w).2.2.2.1))), ((q 6), .inl (cI, 9, .inl ((F_X6_centuryBy pn sl dr yn ko bo yo sh tf tn w).2.2.2.2.1))), ((q 7), .inl (cI, 9, .inl ((F_X6_centuryBy pn sl dr yn ko bo yo sh tf tn w).2.2.2.2.2))), ((q 27), .inl (cI, 240, .inl sh))] (zA [(h6, .inr (6, fM fl pn sl dr yn ra rp rs rd ry pk yk rg tc q)), ((q 5), .inl (cI, 9, .inl ko)), ((q 6), .inl (cI, 9, .inl bo)), ((q 7), .inl (cI, 9, .inl yo)), ((q 27), .inl (cI, 240, .inl sh))]) (some (.int ((F_X6_centuryBy pn sl dr yn ko bo yo sh tf tn w).1)))) args s 0 0 (zA [(h6, .inr (6, fM fl pn sl dr yn ra rp rs rd ry pk yk rg tc q)), ((q 5), .inl (cI, 9, .inl ko)), ((q 6), .inl (cI, 9, .inl bo)), ((q 7), .inl (cI, 9, .inl yo)), ((q 27), .inl (cI, 240, .inl sh))])) 10 [(0, .ref h6), (1, .int tf), (2, .int tn), (3, .int w), (4, .int x4_10), (5, .int x5_10), (6, .int x6_10)] [] [(h6, .inr (6, fM fl pn_10 sl dr yn_10 ra rp rs rd ry pk yk rg tc q)), ((q 5), .inl (cI, 9, .inl ko_10)), ((q 6), .inl (cI, 9, .inl bo_10)), ((q 7), .inl (cI, 9, .inl yo_10)), ((q 27), .inl (cI, 240, .inl sh))] := by
    intro d10
    induction d10 with
    | zero =>
      intro j x4_10 x5_10 x6_10 pn_10 yn_10 ko_10 bo_10 yo_10 e6 hj hd hq hf
      exfalso; omega
    | succ d10 ih10 =>
      intro j x4_10 x5_10 x6_10 pn_10 yn_10 ko_10 bo_10 yo_10 e6 hj hd hq hf
      rw [F_X6_centuryBy_l10] at hf
      obtain ⟨q0, hq1, hq9, hpq⟩ := hq
      skip
      refine z_iload C dX6_centuryBy_10 6 rfl ?_
      refine z_iload_n C dX6_centuryBy_12 rfl 2 rfl ?_
      refine z_icmp_ge (tgt := 197) C dX6_centuryBy_13 (by decide) (fun c13 => ?_) (fun c13 => ?_)
      · rw [if_pos c13] at hf
        exact X10 x4_10 x5_10 x6_10 pn_10 yn_10 ko_10 bo_10 yo_10 ⟨q0, hq1, hq9, hpq⟩ hf
      · rw [if_neg c13] at hf
        refine z_iload C dX6_centuryBy_16 4 rfl ?_
        refine z_if_ge (tgt := 197) C dX6_centuryBy_18 (by decide) (fun c18 => ?_) (fun c18 => ?_)
        · rw [if_pos c18] at hf
          exact X10 x4_10 x5_10 x6_10 pn_10 yn_10 ko_10 bo_10 yo_10 ⟨q0, hq1, hq9, hpq⟩ hf
        · rw [if_neg c18] at hf
          refine z_aload_n C dX6_centuryBy_21 rfl 0 rfl ?_
          refine z_get (T := TX6) (v := .ref (q 27)) C i_X6_centuryBy_6 0 rfl rfl 27 (by decide) m_X6_centuryBy_1 rfl rfl dX6_centuryBy_22 ?_
          refine z_iload_n C dX6_centuryBy_25 rfl 1 rfl ?_
          refine z_iconst (v := (2 : Int32)) C dX6_centuryBy_26 (by decide) ?_
          refine z_iload C dX6_centuryBy_27 6 rfl ?_
          refine z_imul C dX6_centuryBy_29 ?_
          refine z_iadd C dX6_centuryBy_30 ?_
          refine z_ald C 4 rfl (two_ix hf0 e6 (by have := z_jlt e6 (by omega) (z_tiN hn0 (by omega)) c13; omega)).1 dX6_centuryBy_31 ?_
          refine z_istore C [(0, .ref h6), (1, .int tf), (2, .int tn), (3, .int w), (4, .int x4_10), (5, .int x5_10), (6, .int x6_10), (7, .int (sh (tf + ((2 : Int32) * x6_10)).toNatClampNeg))] dX6_centuryBy_32 (by decide) [1, 2, 3, 4, 5, 6, 7, 0] rfl ?_
          refine z_aload_n C dX6_centuryBy_34 rfl 0 rfl ?_
          refine z_get (T := TX6) (v := .ref (q 27)) C i_X6_centuryBy_6 0 rfl rfl 27 (by decide) m_X6_centuryBy_1 rfl rfl dX6_centuryBy_35 ?_
          refine z_iload_n C dX6_centuryBy_38 rfl 1 rfl ?_
          refine z_iconst (v := (2 : Int32)) C dX6_centuryBy_39 (by decide) ?_
          refine z_iload C dX6_centuryBy_40 6 rfl ?_
          refine z_imul C dX6_centuryBy_42 ?_
          refine z_iadd C dX6_centuryBy_43 ?_
          refine z_iconst (v := (1 : Int32)) C dX6_centuryBy_44 (by decide) ?_
          refine z_iadd C dX6_centuryBy_45 ?_
          refine z_ald C 4 rfl (two_ix hf0 e6 (by have := z_jlt e6 (by omega) (z_tiN hn0 (by omega)) c13; omega)).2 dX6_centuryBy_46 ?_
          refine z_istore C [(0, .ref h6), (1, .int tf), (2, .int tn), (3, .int w), (4, .int x4_10), (5, .int x5_10), (6, .int x6_10), (7, .int (sh (tf + ((2 : Int32) * x6_10)).toNatClampNeg)), (8, .int (sh ((tf + ((2 : Int32) * x6_10)) + (1 : Int32)).toNatClampNeg))] dX6_centuryBy_47 (by decide) [1, 2, 3, 4, 5, 6, 7, 8, 0] rfl ?_
          refine z_iload C dX6_centuryBy_49 8 rfl ?_
          refine z_iconst (v := (3 : Int32)) C dX6_centuryBy_51 (by decide) ?_
          refine z_icmp_ge (tgt := 66) C dX6_centuryBy_52 (by decide) (fun c52 => ?_) (fun c52 => ?_)
          · rw [if_pos c52] at hf
            refine z_iload C dX6_centuryBy_66 8 rfl ?_
            refine z_iconst (v := (3 : Int32)) C dX6_centuryBy_68 (by decide) ?_
            refine z_icmp_eq (tgt := 80) C dX6_centuryBy_69 (by decide) (fun c69 => ?_) (fun c69 => ?_)
            · rw [if_pos c69] at hf
              refine z_iconst (v := (1 : Int32)) C dX6_centuryBy_80 (by decide) ?_
              refine z_goto (tgt := 85) C dX6_centuryBy_81 (by decide) ?_
              refine z_istore C [(0, .ref h6), (1, .int tf), (2, .int tn), (3, .int w), (4, .int x4_10), (5, .int x5_10), (6, .int x6_10), (7, .int (sh (tf + ((2 : Int32) * x6_10)).toNatClampNeg)), (8, .int (sh ((tf + ((2 : Int32) * x6_10)) + (1 : Int32)).toNatClampNeg)), (9, .int (1 : Int32))] dX6_centuryBy_85 (by decide) [1, 2, 3, 4, 5, 6, 7, 8, 9, 0] rfl ?_
              refine z_iload C dX6_centuryBy_87 5 rfl ?_
              refine z_iload C dX6_centuryBy_89 8 rfl ?_
              refine z_iconst (v := (3 : Int32)) C dX6_centuryBy_91 (by decide) ?_
              refine z_icmp_ge (tgt := 127) C dX6_centuryBy_92 (by decide) (fun _ => ?_) (fun h9 => absurd c52 h9)
              refine z_iconst (v := (0 : Int32)) C dX6_centuryBy_127 (by decide) ?_
              refine z_iadd C dX6_centuryBy_128 ?_
              refine z_istore C [(0, .ref h6), (1, .int tf), (2, .int tn), (3, .int w), (4, .int x4_10), (5, .int (x5_10 + (0 : Int32))), (6, .int x6_10), (7, .int (sh (tf + ((2 : Int32) * x6_10)).toNatClampNeg)), (8, .int (sh ((tf + ((2 : Int32) * x6_10)) + (1 : Int32)).toNatClampNeg)), (9, .int (1 : Int32))] dX6_centuryBy_129 (by decide) [1, 2, 3, 4, 5, 0, 6, 7, 8, 9] rfl ?_
              refine z_aload_n C dX6_centuryBy_131 rfl 0 rfl ?_
              refine z_dup C dX6_centuryBy_132 rfl ?_
              refine z_get (T := TX6) (v := .int yn_10) C i_X6_centuryBy_6 0 rfl rfl 4 (by decide) m_X6_centuryBy_3 rfl rfl dX6_centuryBy_133 ?_
              refine z_iload C dX6_centuryBy_136 8 rfl ?_
              refine z_iconst (v := (3 : Int32)) C dX6_centuryBy_138 (by decide) ?_
              refine z_icmp_ne (tgt := 147) C dX6_centuryBy_139 (by decide) (fun h9 => absurd c69 h9) (fun _ => ?_)
              refine z_iload C dX6_centuryBy_142 7 rfl ?_
              refine z_goto (tgt := 148) C dX6_centuryBy_144 (by decide) ?_
              refine z_iadd C dX6_centuryBy_148 ?_
              refine z_put (T := TX6) (ty := .int) C [(h6, .inr (6, fM fl pn_10 sl dr (yn_10 + (sh (tf + ((2 : Int32) * x6_10)).toNatClampNeg)) ra rp rs rd ry pk yk rg tc q)), ((q 5), .inl (cI, 9, .inl ko_10)), ((q 6), .inl (cI, 9, .inl bo_10)), ((q 7), .inl (cI, 9, .inl yo_10)), ((q 27), .inl (cI, 240, .inl sh))] i_X6_centuryBy_6 tyX6 tyX6_ok nmX6 0 rfl rfl 4 (by decide) m_X6_centuryBy_3 rfl rfl (by decide +kernel) rfl rfl (Nat.le_of_ble_eq_true rfl) dX6_centuryBy_149 rfl ?_
              refine z_aload_n C dX6_centuryBy_152 rfl 0 rfl ?_
              refine z_dup C dX6_centuryBy_153 rfl ?_
              refine z_get (T := TX6) (v := .int pn_10) C i_X6_centuryBy_6 0 rfl rfl 1 (by decide) m_X6_centuryBy_2 rfl rfl dX6_centuryBy_154 ?_
              refine z_iload C dX6_centuryBy_157 8 rfl ?_
              refine z_iconst (v := (4 : Int32)) C dX6_centuryBy_159 (by decide) ?_
              refine z_icmp_ne (tgt := 172) C dX6_centuryBy_160 (by decide) (fun _ => ?_) (fun h9 => absurd h9 (mt (zl_eq (x := (sh ((tf + ((2 : Int32) * x6_10)) + (1 : Int32)).toNatClampNeg)) (z := 4) (by decide)).mp (by have q0 := (zl_ge (x := (sh ((tf + ((2 : Int32) * x6_10)) + (1 : Int32)).toNatClampNeg)) (z := 3) (by decide)).mp c52; have q1 := (zl_eq (x := (sh ((tf + ((2 : Int32) * x6_10)) + (1 : Int32)).toNatClampNeg)) (z := 3) (by decide)).mp c69; omega)))
              refine z_iconst (v := (0 : Int32)) C dX6_centuryBy_172 (by decide) ?_
              refine z_isub C dX6_centuryBy_173 ?_
              refine z_put (T := TX6) (ty := .int) C [(h6, .inr (6, fM fl (pn_10 - (0 : Int32)) sl dr (yn_10 + (sh (tf + ((2 : Int32) * x6_10)).toNatClampNeg)) ra rp rs rd ry pk yk rg tc q)), ((q 5), .inl (cI, 9, .inl ko_10)), ((q 6), .inl (cI, 9, .inl bo_10)), ((q 7), .inl (cI, 9, .inl yo_10)), ((q 27), .inl (cI, 240, .inl sh))] i_X6_centuryBy_6 tyX6 tyX6_ok nmX6 0 rfl rfl 1 (by decide) m_X6_centuryBy_2 rfl rfl (by decide +kernel) rfl rfl (Nat.le_of_ble_eq_true rfl) dX6_centuryBy_174 rfl ?_
              refine z_iload C dX6_centuryBy_177 9 rfl ?_
              refine z_if_eq (tgt := 187) C dX6_centuryBy_179 (by decide) (fun h9 => absurd h9 (by decide)) (fun _ => ?_)
              refine z_bipush (v := (-9 : Int32)) C dX6_centuryBy_182 (by decide) ?_
              refine z_goto (tgt := 189) C dX6_centuryBy_184 (by decide) ?_
              refine z_istore C [(0, .ref h6), (1, .int tf), (2, .int tn), (3, .int w), (4, .int (-9 : Int32)), (5, .int (x5_10 + (0 : Int32))), (6, .int x6_10), (7, .int (sh (tf + ((2 : Int32) * x6_10)).toNatClampNeg)), (8, .int (sh ((tf + ((2 : Int32) * x6_10)) + (1 : Int32)).toNatClampNeg)), (9, .int (1 : Int32))] dX6_centuryBy_189 (by decide) [1, 2, 3, 4, 0, 5, 6, 7, 8, 9] rfl ?_
              refine z_iinc (v := (x6_10 + (1 : Int32))) C [(0, .ref h6), (1, .int tf), (2, .int tn), (3, .int w), (4, .int (-9 : Int32)), (5, .int (x5_10 + (0 : Int32))), (6, .int (x6_10 + (1 : Int32))), (7, .int (sh (tf + ((2 : Int32) * x6_10)).toNatClampNeg)), (8, .int (sh ((tf + ((2 : Int32) * x6_10)) + (1 : Int32)).toNatClampNeg)), (9, .int (1 : Int32))] dX6_centuryBy_191 6 rfl (by rfl) (by decide) [1, 2, 3, 4, 5, 6, 0, 7, 8, 9] rfl ?_
              refine z_goto (tgt := 10) C dX6_centuryBy_194 (by decide) ?_
              refine z_ls [(0, .ref h6), (1, .int tf), (2, .int tn), (3, .int w), (4, .int (-9 : Int32)), (5, .int (x5_10 + (0 : Int32))), (6, .int (x6_10 + (1 : Int32)))] [0, 1, 2, 3, 4, 5, 6] rfl ?_
              exact ih10 (j + 1) (-9 : Int32) (x5_10 + (0 : Int32)) (x6_10 + (1 : Int32)) (pn_10 - (0 : Int32)) (yn_10 + (sh (tf + ((2 : Int32) * x6_10)).toNatClampNeg)) ko_10 bo_10 yo_10 (by rw [e6]; exact nI_1 j) (by have := z_jlt e6 (by omega) (z_tiN hn0 (by omega)) c13; omega) (by omega) (by first | exact ⟨q0 + 1, by omega, by have := (threw_np hpq hq9 c97).1; omega, by rw [z_s0]; exact (threw_np hpq hq9 c97).2⟩ | exact ⟨q0, hq1, hq9, by rw [z_s0, threw_no c97]; exact hpq⟩ | exact ⟨q0, hq1, hq9, by rw [z_s0]; exact hpq⟩ | exact ⟨q0 - 1, by have := z_jnle (n := 1) hpq (by omega) (by decide) c77; omega, by omega, z_sub1 hpq hq1⟩) hf
            · rw [if_neg c69] at hf
              refine z_aload_n C dX6_centuryBy_72 rfl 0 rfl ?_
              refine z_get (T := TX6) (v := .int pn_10) C i_X6_centuryBy_6 0 rfl rfl 1 (by decide) m_X6_centuryBy_2 rfl rfl dX6_centuryBy_73 ?_
              refine z_iconst (v := (1 : Int32)) C dX6_centuryBy_76 (by decide) ?_
              refine z_icmp_le (tgt := 84) C dX6_centuryBy_77 (by decide) (fun c77 => ?_) (fun c77 => ?_)
              · rw [if_pos c77] at hf
                refine z_iconst (v := (0 : Int32)) C dX6_centuryBy_84 (by decide) ?_
                refine z_istore C [(0, .ref h6), (1, .int tf), (2, .int tn), (3, .int w), (4, .int x4_10), (5, .int x5_10), (6, .int x6_10), (7, .int (sh (tf + ((2 : Int32) * x6_10)).toNatClampNeg)), (8, .int (sh ((tf + ((2 : Int32) * x6_10)) + (1 : Int32)).toNatClampNeg)), (9, .int (0 : Int32))] dX6_centuryBy_85 (by decide) [1, 2, 3, 4, 5, 6, 7, 8, 9, 0] rfl ?_
                refine z_iload C dX6_centuryBy_87 5 rfl ?_
                refine z_iload C dX6_centuryBy_89 8 rfl ?_
                refine z_iconst (v := (3 : Int32)) C dX6_centuryBy_91 (by decide) ?_
                refine z_icmp_ge (tgt := 127) C dX6_centuryBy_92 (by decide) (fun _ => ?_) (fun h9 => absurd c52 h9)
                refine z_iconst (v := (0 : Int32)) C dX6_centuryBy_127 (by decide) ?_
                refine z_iadd C dX6_centuryBy_128 ?_
                refine z_istore C [(0, .ref h6), (1, .int tf), (2, .int tn), (3, .int w), (4, .int x4_10), (5, .int (x5_10 + (0 : Int32))), (6, .int x6_10), (7, .int (sh (tf + ((2 : Int32) * x6_10)).toNatClampNeg)), (8, .int (sh ((tf + ((2 : Int32) * x6_10)) + (1 : Int32)).toNatClampNeg)), (9, .int (0 : Int32))] dX6_centuryBy_129 (by decide) [1, 2, 3, 4, 5, 0, 6, 7, 8, 9] rfl ?_
                refine z_aload_n C dX6_centuryBy_131 rfl 0 rfl ?_
                refine z_dup C dX6_centuryBy_132 rfl ?_
                refine z_get (T := TX6) (v := .int yn_10) C i_X6_centuryBy_6 0 rfl rfl 4 (by decide) m_X6_centuryBy_3 rfl rfl dX6_centuryBy_133 ?_
                refine z_iload C dX6_centuryBy_136 8 rfl ?_
                refine z_iconst (v := (3 : Int32)) C dX6_centuryBy_138 (by decide) ?_
                refine z_icmp_ne (tgt := 147) C dX6_centuryBy_139 (by decide) (fun _ => ?_) (fun h9 => absurd h9 c69)
                refine z_iconst (v := (0 : Int32)) C dX6_centuryBy_147 (by decide) ?_
                refine z_iadd C dX6_centuryBy_148 ?_
                refine z_put (T := TX6) (ty := .int) C [(h6, .inr (6, fM fl pn_10 sl dr (yn_10 + (0 : Int32)) ra rp rs rd ry pk yk rg tc q)), ((q 5), .inl (cI, 9, .inl ko_10)), ((q 6), .inl (cI, 9, .inl bo_10)), ((q 7), .inl (cI, 9, .inl yo_10)), ((q 27), .inl (cI, 240, .inl sh))] i_X6_centuryBy_6 tyX6 tyX6_ok nmX6 0 rfl rfl 4 (by decide) m_X6_centuryBy_3 rfl rfl (by decide +kernel) rfl rfl (Nat.le_of_ble_eq_true rfl) dX6_centuryBy_149 rfl ?_
                refine z_aload_n C dX6_centuryBy_152 rfl 0 rfl ?_
                refine z_dup C dX6_centuryBy_153 rfl ?_
                refine z_get (T := TX6) (v := .int pn_10) C i_X6_centuryBy_6 0 rfl rfl 1 (by decide) m_X6_centuryBy_2 rfl rfl dX6_centuryBy_154 ?_
                refine z_iload C dX6_centuryBy_157 8 rfl ?_
                refine z_iconst (v := (4 : Int32)) C dX6_centuryBy_159 (by decide) ?_
                refine z_icmp_ne (tgt := 172) C dX6_centuryBy_160 (by decide) (fun c160 => ?_) (fun c160 => ?_)
                · rw [if_neg c160] at hf
                  refine z_iconst (v := (0 : Int32)) C dX6_centuryBy_172 (by decide) ?_
                  refine z_isub C dX6_centuryBy_173 ?_
                  refine z_put (T := TX6) (ty := .int) C [(h6, .inr (6, fM fl (pn_10 - (0 : Int32)) sl dr (yn_10 + (0 : Int32)) ra rp rs rd ry pk yk rg tc q)), ((q 5), .inl (cI, 9, .inl ko_10)), ((q 6), .inl (cI, 9, .inl bo_10)), ((q 7), .inl (cI, 9, .inl yo_10)), ((q 27), .inl (cI, 240, .inl sh))] i_X6_centuryBy_6 tyX6 tyX6_ok nmX6 0 rfl rfl 1 (by decide) m_X6_centuryBy_2 rfl rfl (by decide +kernel) rfl rfl (Nat.le_of_ble_eq_true rfl) dX6_centuryBy_174 rfl ?_
                  refine z_iload C dX6_centuryBy_177 9 rfl ?_
                  refine z_if_eq (tgt := 187) C dX6_centuryBy_179 (by decide) (fun _ => ?_) (fun h9 => absurd h9 (by decide))
                  refine z_iload C dX6_centuryBy_187 6 rfl ?_
                  refine z_istore C [(0, .ref h6), (1, .int tf), (2, .int tn), (3, .int w), (4, .int x6_10), (5, .int (x5_10 + (0 : Int32))), (6, .int x6_10), (7, .int (sh (tf + ((2 : Int32) * x6_10)).toNatClampNeg)), (8, .int (sh ((tf + ((2 : Int32) * x6_10)) + (1 : Int32)).toNatClampNeg)), (9, .int (0 : Int32))] dX6_centuryBy_189 (by decide) [1, 2, 3, 4, 0, 5, 6, 7, 8, 9] rfl ?_
                  refine z_iinc (v := (x6_10 + (1 : Int32))) C [(0, .ref h6), (1, .int tf), (2, .int tn), (3, .int w), (4, .int x6_10), (5, .int (x5_10 + (0 : Int32))), (6, .int (x6_10 + (1 : Int32))), (7, .int (sh (tf + ((2 : Int32) * x6_10)).toNatClampNeg)), (8, .int (sh ((tf + ((2 : Int32) * x6_10)) + (1 : Int32)).toNatClampNeg)), (9, .int (0 : Int32))] dX6_centuryBy_191 6 rfl (by rfl) (by decide) [1, 2, 3, 4, 5, 6, 0, 7, 8, 9] rfl ?_
                  refine z_goto (tgt := 10) C dX6_centuryBy_194 (by decide) ?_
                  refine z_ls [(0, .ref h6), (1, .int tf), (2, .int tn), (3, .int w), (4, .int x6_10), (5, .int (x5_10 + (0 : Int32))), (6, .int (x6_10 + (1 : Int32)))] [0, 1, 2, 3, 4, 5, 6] rfl ?_
                  exact ih10 (j + 1) x6_10 (x5_10 + (0 : Int32)) (x6_10 + (1 : Int32)) (pn_10 - (0 : Int32)) (yn_10 + (0 : Int32)) ko_10 bo_10 yo_10 (by rw [e6]; exact nI_1 j) (by have := z_jlt e6 (by omega) (z_tiN hn0 (by omega)) c13; omega) (by omega) (by first | exact ⟨q0 + 1, by omega, by have := (threw_np hpq hq9 c97).1; omega, by rw [z_s0]; exact (threw_np hpq hq9 c97).2⟩ | exact ⟨q0, hq1, hq9, by rw [z_s0, threw_no c97]; exact hpq⟩ | exact ⟨q0, hq1, hq9, by rw [z_s0]; exact hpq⟩ | exact ⟨q0 - 1, by have := z_jnle (n := 1) hpq (by omega) (by decide) c77; omega, by omega, z_sub1 hpq hq1⟩) hf
                · rw [if_pos c160] at hf
                  refine z_iload C dX6_centuryBy_163 9 rfl ?_
                  refine z_if_eq (tgt := 172) C dX6_centuryBy_165 (by decide) (fun _ => ?_) (fun h9 => absurd h9 (by decide))
                  refine z_iconst (v := (0 : Int32)) C dX6_centuryBy_172 (by decide) ?_
                  refine z_isub C dX6_centuryBy_173 ?_
                  refine z_put (T := TX6) (ty := .int) C [(h6, .inr (6, fM fl (pn_10 - (0 : Int32)) sl dr (yn_10 + (0 : Int32)) ra rp rs rd ry pk yk rg tc q)), ((q 5), .inl (cI, 9, .inl ko_10)), ((q 6), .inl (cI, 9, .inl bo_10)), ((q 7), .inl (cI, 9, .inl yo_10)), ((q 27), .inl (cI, 240, .inl sh))] i_X6_centuryBy_6 tyX6 tyX6_ok nmX6 0 rfl rfl 1 (by decide) m_X6_centuryBy_2 rfl rfl (by decide +kernel) rfl rfl (Nat.le_of_ble_eq_true rfl) dX6_centuryBy_174 rfl ?_
                  refine z_iload C dX6_centuryBy_177 9 rfl ?_
                  refine z_if_eq (tgt := 187) C dX6_centuryBy_179 (by decide) (fun _ => ?_) (fun h9 => absurd h9 (by decide))
                  refine z_iload C dX6_centuryBy_187 6 rfl ?_
                  refine z_istore C [(0, .ref h6), (1, .int tf), (2, .int tn), (3, .int w), (4, .int x6_10), (5, .int (x5_10 + (0 : Int32))), (6, .int x6_10), (7, .int (sh (tf + ((2 : Int32) * x6_10)).toNatClampNeg)), (8, .int (sh ((tf + ((2 : Int32) * x6_10)) + (1 : Int32)).toNatClampNeg)), (9, .int (0 : Int32))] dX6_centuryBy_189 (by decide) [1, 2, 3, 4, 0, 5, 6, 7, 8, 9] rfl ?_
                  refine z_iinc (v := (x6_10 + (1 : Int32))) C [(0, .ref h6), (1, .int tf), (2, .int tn), (3, .int w), (4, .int x6_10), (5, .int (x5_10 + (0 : Int32))), (6, .int (x6_10 + (1 : Int32))), (7, .int (sh (tf + ((2 : Int32) * x6_10)).toNatClampNeg)), (8, .int (sh ((tf + ((2 : Int32) * x6_10)) + (1 : Int32)).toNatClampNeg)), (9, .int (0 : Int32))] dX6_centuryBy_191 6 rfl (by rfl) (by decide) [1, 2, 3, 4, 5, 6, 0, 7, 8, 9] rfl ?_
                  refine z_goto (tgt := 10) C dX6_centuryBy_194 (by decide) ?_
                  refine z_ls [(0, .ref h6), (1, .int tf), (2, .int tn), (3, .int w), (4, .int x6_10), (5, .int (x5_10 + (0 : Int32))), (6, .int (x6_10 + (1 : Int32)))] [0, 1, 2, 3, 4, 5, 6] rfl ?_
                  exact ih10 (j + 1) x6_10 (x5_10 + (0 : Int32)) (x6_10 + (1 : Int32)) (pn_10 - (0 : Int32)) (yn_10 + (0 : Int32)) ko_10 bo_10 yo_10 (by rw [e6]; exact nI_1 j) (by have := z_jlt e6 (by omega) (z_tiN hn0 (by omega)) c13; omega) (by omega) (by first | exact ⟨q0 + 1, by omega, by have := (threw_np hpq hq9 c97).1; omega, by rw [z_s0]; exact (threw_np hpq hq9 c97).2⟩ | exact ⟨q0, hq1, hq9, by rw [z_s0, threw_no c97]; exact hpq⟩ | exact ⟨q0, hq1, hq9, by rw [z_s0]; exact hpq⟩ | exact ⟨q0 - 1, by have := z_jnle (n := 1) hpq (by omega) (by decide) c77; omega, by omega, z_sub1 hpq hq1⟩) hf
              · rw [if_neg c77] at hf
                refine z_iconst (v := (1 : Int32)) C dX6_centuryBy_80 (by decide) ?_
                refine z_goto (tgt := 85) C dX6_centuryBy_81 (by decide) ?_
                refine z_istore C [(0, .ref h6), (1, .int tf), (2, .int tn), (3, .int w), (4, .int x4_10), (5, .int x5_10), (6, .int x6_10), (7, .int (sh (tf + ((2 : Int32) * x6_10)).toNatClampNeg)), (8, .int (sh ((tf + ((2 : Int32) * x6_10)) + (1 : Int32)).toNatClampNeg)), (9, .int (1 : Int32))] dX6_centuryBy_85 (by decide) [1, 2, 3, 4, 5, 6, 7, 8, 9, 0] rfl ?_
                refine z_iload C dX6_centuryBy_87 5 rfl ?_
                refine z_iload C dX6_centuryBy_89 8 rfl ?_
                refine z_iconst (v := (3 : Int32)) C dX6_centuryBy_91 (by decide) ?_
                refine z_icmp_ge (tgt := 127) C dX6_centuryBy_92 (by decide) (fun _ => ?_) (fun h9 => absurd c52 h9)
                refine z_iconst (v := (0 : Int32)) C dX6_centuryBy_127 (by decide) ?_
                refine z_iadd C dX6_centuryBy_128 ?_
                refine z_istore C [(0, .ref h6), (1, .int tf), (2, .int tn), (3, .int w), (4, .int x4_10), (5, .int (x5_10 + (0 : Int32))), (6, .int x6_10), (7, .int (sh (tf + ((2 : Int32) * x6_10)).toNatClampNeg)), (8, .int (sh ((tf + ((2 : Int32) * x6_10)) + (1 : Int32)).toNatClampNeg)), (9, .int (1 : Int32))] dX6_centuryBy_129 (by decide) [1, 2, 3, 4, 5, 0, 6, 7, 8, 9] rfl ?_
                refine z_aload_n C dX6_centuryBy_131 rfl 0 rfl ?_
                refine z_dup C dX6_centuryBy_132 rfl ?_
                refine z_get (T := TX6) (v := .int yn_10) C i_X6_centuryBy_6 0 rfl rfl 4 (by decide) m_X6_centuryBy_3 rfl rfl dX6_centuryBy_133 ?_
                refine z_iload C dX6_centuryBy_136 8 rfl ?_
                refine z_iconst (v := (3 : Int32)) C dX6_centuryBy_138 (by decide) ?_
                refine z_icmp_ne (tgt := 147) C dX6_centuryBy_139 (by decide) (fun _ => ?_) (fun h9 => absurd h9 c69)
                refine z_iconst (v := (0 : Int32)) C dX6_centuryBy_147 (by decide) ?_
                refine z_iadd C dX6_centuryBy_148 ?_
                refine z_put (T := TX6) (ty := .int) C [(h6, .inr (6, fM fl pn_10 sl dr (yn_10 + (0 : Int32)) ra rp rs rd ry pk yk rg tc q)), ((q 5), .inl (cI, 9, .inl ko_10)), ((q 6), .inl (cI, 9, .inl bo_10)), ((q 7), .inl (cI, 9, .inl yo_10)), ((q 27), .inl (cI, 240, .inl sh))] i_X6_centuryBy_6 tyX6 tyX6_ok nmX6 0 rfl rfl 4 (by decide) m_X6_centuryBy_3 rfl rfl (by decide +kernel) rfl rfl (Nat.le_of_ble_eq_true rfl) dX6_centuryBy_149 rfl ?_
                refine z_aload_n C dX6_centuryBy_152 rfl 0 rfl ?_
                refine z_dup C dX6_centuryBy_153 rfl ?_
                refine z_get (T := TX6) (v := .int pn_10) C i_X6_centuryBy_6 0 rfl rfl 1 (by decide) m_X6_centuryBy_2 rfl rfl dX6_centuryBy_154 ?_
                refine z_iload C dX6_centuryBy_157 8 rfl ?_
                refine z_iconst (v := (4 : Int32)) C dX6_centuryBy_159 (by decide) ?_
                refine z_icmp_ne (tgt := 172) C dX6_centuryBy_160 (by decide) (fun c160 => ?_) (fun c160 => ?_)
                · rw [if_neg c160] at hf
                  refine z_iconst (v := (0 : Int32)) C dX6_centuryBy_172 (by decide) ?_
                  refine z_isub C dX6_centuryBy_173 ?_
                  refine z_put (T := TX6) (ty := .int) C [(h6, .inr (6, fM fl (pn_10 - (0 : Int32)) sl dr (yn_10 + (0 : Int32)) ra rp rs rd ry pk yk rg tc q)), ((q 5), .inl (cI, 9, .inl ko_10)), ((q 6), .inl (cI, 9, .inl bo_10)), ((q 7), .inl (cI, 9, .inl yo_10)), ((q 27), .inl (cI, 240, .inl sh))] i_X6_centuryBy_6 tyX6 tyX6_ok nmX6 0 rfl rfl 1 (by decide) m_X6_centuryBy_2 rfl rfl (by decide +kernel) rfl rfl (Nat.le_of_ble_eq_true rfl) dX6_centuryBy_174 rfl ?_
                  refine z_iload C dX6_centuryBy_177 9 rfl ?_
                  refine z_if_eq (tgt := 187) C dX6_centuryBy_179 (by decide) (fun h9 => absurd h9 (by decide)) (fun _ => ?_)
                  refine z_bipush (v := (-9 : Int32)) C dX6_centuryBy_182 (by decide) ?_
                  refine z_goto (tgt := 189) C dX6_centuryBy_184 (by decide) ?_
                  refine z_istore C [(0, .ref h6), (1, .int tf), (2, .int tn), (3, .int w), (4, .int (-9 : Int32)), (5, .int (x5_10 + (0 : Int32))), (6, .int x6_10), (7, .int (sh (tf + ((2 : Int32) * x6_10)).toNatClampNeg)), (8, .int (sh ((tf + ((2 : Int32) * x6_10)) + (1 : Int32)).toNatClampNeg)), (9, .int (1 : Int32))] dX6_centuryBy_189 (by decide) [1, 2, 3, 4, 0, 5, 6, 7, 8, 9] rfl ?_
                  refine z_iinc (v := (x6_10 + (1 : Int32))) C [(0, .ref h6), (1, .int tf), (2, .int tn), (3, .int w), (4, .int (-9 : Int32)), (5, .int (x5_10 + (0 : Int32))), (6, .int (x6_10 + (1 : Int32))), (7, .int (sh (tf + ((2 : Int32) * x6_10)).toNatClampNeg)), (8, .int (sh ((tf + ((2 : Int32) * x6_10)) + (1 : Int32)).toNatClampNeg)), (9, .int (1 : Int32))] dX6_centuryBy_191 6 rfl (by rfl) (by decide) [1, 2, 3, 4, 5, 6, 0, 7, 8, 9] rfl ?_
                  refine z_goto (tgt := 10) C dX6_centuryBy_194 (by decide) ?_
                  refine z_ls [(0, .ref h6), (1, .int tf), (2, .int tn), (3, .int w), (4, .int (-9 : Int32)), (5, .int (x5_10 + (0 : Int32))), (6, .int (x6_10 + (1 : Int32)))] [0, 1, 2, 3, 4, 5, 6] rfl ?_
                  exact ih10 (j + 1) (-9 : Int32) (x5_10 + (0 : Int32)) (x6_10 + (1 : Int32)) (pn_10 - (0 : Int32)) (yn_10 + (0 : Int32)) ko_10 bo_10 yo_10 (by rw [e6]; exact nI_1 j) (by have := z_jlt e6 (by omega) (z_tiN hn0 (by omega)) c13; omega) (by omega) (by first | exact ⟨q0 + 1, by omega, by have := (threw_np hpq hq9 c97).1; omega, by rw [z_s0]; exact (threw_np hpq hq9 c97).2⟩ | exact ⟨q0, hq1, hq9, by rw [z_s0, threw_no c97]; exact hpq⟩ | exact ⟨q0, hq1, hq9, by rw [z_s0]; exact hpq⟩ | exact ⟨q0 - 1, by have := z_jnle (n := 1) hpq (by omega) (by decide) c77; omega, by omega, z_sub1 hpq hq1⟩) hf
                · rw [if_pos c160] at hf
                  refine z_iload C dX6_centuryBy_163 9 rfl ?_
                  refine z_if_eq (tgt := 172) C dX6_centuryBy_165 (by decide) (fun h9 => absurd h9 (by decide)) (fun _ => ?_)
                  refine z_iconst (v := (1 : Int32)) C dX6_centuryBy_168 (by decide) ?_
                  refine z_goto (tgt := 173) C dX6_centuryBy_169 (by decide) ?_
                  refine z_isub C dX6_centuryBy_173 ?_
                  refine z_put (T := TX6) (ty := .int) C [(h6, .inr (6, fM fl (pn_10 - (1 : Int32)) sl dr (yn_10 + (0 : Int32)) ra rp rs rd ry pk yk rg tc q)), ((q 5), .inl (cI, 9, .inl ko_10)), ((q 6), .inl (cI, 9, .inl bo_10)), ((q 7), .inl (cI, 9, .inl yo_10)), ((q 27), .inl (cI, 240, .inl sh))] i_X6_centuryBy_6 tyX6 tyX6_ok nmX6 0 rfl rfl 1 (by decide) m_X6_centuryBy_2 rfl rfl (by decide +kernel) rfl rfl (Nat.le_of_ble_eq_true rfl) dX6_centuryBy_174 rfl ?_
                  refine z_iload C dX6_centuryBy_177 9 rfl ?_
                  refine z_if_eq (tgt := 187) C dX6_centuryBy_179 (by decide) (fun h9 => absurd h9 (by decide)) (fun _ => ?_)
                  refine z_bipush (v := (-9 : Int32)) C dX6_centuryBy_182 (by decide) ?_
                  refine z_goto (tgt := 189) C dX6_centuryBy_184 (by decide) ?_
                  refine z_istore C [(0, .ref h6), (1, .int tf), (2, .int tn), (3, .int w), (4, .int (-9 : Int32)), (5, .int (x5_10 + (0 : Int32))), (6, .int x6_10), (7, .int (sh (tf + ((2 : Int32) * x6_10)).toNatClampNeg)), (8, .int (sh ((tf + ((2 : Int32) * x6_10)) + (1 : Int32)).toNatClampNeg)), (9, .int (1 : Int32))] dX6_centuryBy_189 (by decide) [1, 2, 3, 4, 0, 5, 6, 7, 8, 9] rfl ?_
                  refine z_iinc (v := (x6_10 + (1 : Int32))) C [(0, .ref h6), (1, .int tf), (2, .int tn), (3, .int w), (4, .int (-9 : Int32)), (5, .int (x5_10 + (0 : Int32))), (6, .int (x6_10 + (1 : Int32))), (7, .int (sh (tf + ((2 : Int32) * x6_10)).toNatClampNeg)), (8, .int (sh ((tf + ((2 : Int32) * x6_10)) + (1 : Int32)).toNatClampNeg)), (9, .int (1 : Int32))] dX6_centuryBy_191 6 rfl (by rfl) (by decide) [1, 2, 3, 4, 5, 6, 0, 7, 8, 9] rfl ?_
                  refine z_goto (tgt := 10) C dX6_centuryBy_194 (by decide) ?_
                  refine z_ls [(0, .ref h6), (1, .int tf), (2, .int tn), (3, .int w), (4, .int (-9 : Int32)), (5, .int (x5_10 + (0 : Int32))), (6, .int (x6_10 + (1 : Int32)))] [0, 1, 2, 3, 4, 5, 6] rfl ?_
                  exact ih10 (j + 1) (-9 : Int32) (x5_10 + (0 : Int32)) (x6_10 + (1 : Int32)) (pn_10 - (1 : Int32)) (yn_10 + (0 : Int32)) ko_10 bo_10 yo_10 (by rw [e6]; exact nI_1 j) (by have := z_jlt e6 (by omega) (z_tiN hn0 (by omega)) c13; omega) (by omega) (by first | exact ⟨q0 + 1, by omega, by have := (threw_np hpq hq9 c97).1; omega, by rw [z_s0]; exact (threw_np hpq hq9 c97).2⟩ | exact ⟨q0, hq1, hq9, by rw [z_s0, threw_no c97]; exact hpq⟩ | exact ⟨q0, hq1, hq9, by rw [z_s0]; exact hpq⟩ | exact ⟨q0 - 1, by have := z_jnle (n := 1) hpq (by omega) (by decide) c77; omega, by omega, z_sub1 hpq hq1⟩) hf
          · rw [if_neg c52] at hf
            refine z_aload_n C dX6_centuryBy_55 rfl 0 rfl ?_
            refine z_iload C dX6_centuryBy_56 8 rfl ?_
            refine z_iload C dX6_centuryBy_58 7 rfl ?_
            refine z_cVW (As := [.int (sh ((tf + ((2 : Int32) * x6_10)) + (1 : Int32)).toNatClampNeg), .int (sh (tf + ((2 : Int32) * x6_10)).toNatClampNeg)]) C (c_X6_threw l D cI cO h6 q fl pn_10 sl dr yn_10 ra rp rs rd ry pk yk rg tc ko_10 bo_10 yo_10 (sh ((tf + ((2 : Int32) * x6_10)) + (1 : Int32)).toNatClampNeg) (sh (tf + ((2 : Int32) * x6_10)).toNatClampNeg) q0 hpq hq9) (cwV 2 C.2.2.2.2.1 gX6_centuryBy_X6_threw rfl rfl rfl hdV_X6_threw ⟨Nat.le_of_ble_eq_true rfl, Nat.le_of_ble_eq_true rfl⟩) [(h6, .inr (6, fM fl ((F_X6_threw pn_10 yn_10 ko_10 bo_10 yo_10 (sh ((tf + ((2 : Int32) * x6_10)) + (1 : Int32)).toNatClampNeg) (sh (tf + ((2 : Int32) * x6_10)).toNatClampNeg)).2.1) sl dr yn_10 ra rp rs rd ry pk yk rg tc q)), ((q 5), .inl (cI, 9, .inl ((F_X6_threw pn_10 yn_10 ko_10 bo_10 yo_10 (sh ((tf + ((2 : Int32) * x6_10)) + (1 : Int32)).toNatClampNeg) (sh (tf + ((2 : Int32) * x6_10)).toNatClampNeg)).2.2.1))), ((q 6), .inl (cI, 9, .inl ((F_X6_threw pn_10 yn_10 ko_10 bo_10 yo_10 (sh ((tf + ((2 : Int32) * x6_10)) + (1 : Int32)).toNatClampNeg) (sh (tf + ((2 : Int32) * x6_10)).toNatClampNeg)).2.2.2.1))), ((q 7), .inl (cI, 9, .inl ((F_X6_threw pn_10 yn_10 ko_10 bo_10 yo_10 (sh ((tf + ((2 : Int32) * x6_10)) + (1 : Int32)).toNatClampNeg) (sh (tf + ((2 : Int32) * x6_10)).toNatClampNeg)).2.2.2.2))), ((q 27), .inl (cI, 240, .inl sh))] [0, 1, 2, 3] rfl rfl (Eq.refl [h6, (q 5), (q 6), (q 7)]) rfl 0 rfl rfl rfl _ rfl (Nat.le_of_ble_eq_true rfl) ⟨Nat.zero_le _, Nat.zero_le _⟩ dX6_centuryBy_60 ?_
            generalize hu60 : (F_X6_threw pn_10 yn_10 ko_10 bo_10 yo_10 (sh ((tf + ((2 : Int32) * x6_10)) + (1 : Int32)).toNatClampNeg) (sh (tf + ((2 : Int32) * x6_10)).toNatClampNeg)) = u60 at hf ⊢
            refine z_goto (tgt := 85) C dX6_centuryBy_63 (by decide) ?_
            refine z_istore C [(0, .ref h6), (1, .int tf), (2, .int tn), (3, .int w), (4, .int x4_10), (5, .int x5_10), (6, .int x6_10), (7, .int (sh (tf + ((2 : Int32) * x6_10)).toNatClampNeg)), (8, .int (sh ((tf + ((2 : Int32) * x6_10)) + (1 : Int32)).toNatClampNeg)), (9, .int u60.1)] dX6_centuryBy_85 (by decide) [1, 2, 3, 4, 5, 6, 7, 8, 9, 0] rfl ?_
            refine z_iload C dX6_centuryBy_87 5 rfl ?_
            refine z_iload C dX6_centuryBy_89 8 rfl ?_
            refine z_iconst (v := (3 : Int32)) C dX6_centuryBy_91 (by decide) ?_
            refine z_icmp_ge (tgt := 127) C dX6_centuryBy_92 (by decide) (fun h9 => absurd h9 c52) (fun _ => ?_)
            refine z_iload C dX6_centuryBy_95 9 rfl ?_
            refine z_if_eq (tgt := 127) C dX6_centuryBy_97 (by decide) (fun c97 => ?_) (fun c97 => ?_)
            · rw [if_pos c97] at hf
              have b97 := c97
              rw [← hu60] at c97
              refine z_iconst (v := (0 : Int32)) C dX6_centuryBy_127 (by decide) ?_
              refine z_iadd C dX6_centuryBy_128 ?_
              refine z_istore C [(0, .ref h6), (1, .int tf), (2, .int tn), (3, .int w), (4, .int x4_10), (5, .int (x5_10 + (0 : Int32))), (6, .int x6_10), (7, .int (sh (tf + ((2 : Int32) * x6_10)).toNatClampNeg)), (8, .int (sh ((tf + ((2 : Int32) * x6_10)) + (1 : Int32)).toNatClampNeg)), (9, .int u60.1)] dX6_centuryBy_129 (by decide) [1, 2, 3, 4, 5, 0, 6, 7, 8, 9] rfl ?_
              refine z_aload_n C dX6_centuryBy_131 rfl 0 rfl ?_
              refine z_dup C dX6_centuryBy_132 rfl ?_
              refine z_get (T := TX6) (v := .int yn_10) C i_X6_centuryBy_6 0 rfl rfl 4 (by decide) m_X6_centuryBy_3 rfl rfl dX6_centuryBy_133 ?_
              refine z_iload C dX6_centuryBy_136 8 rfl ?_
              refine z_iconst (v := (3 : Int32)) C dX6_centuryBy_138 (by decide) ?_
              refine z_icmp_ne (tgt := 147) C dX6_centuryBy_139 (by decide) (fun _ => ?_) (fun h9 => absurd h9 (mt (zl_eq (x := (sh ((tf + ((2 : Int32) * x6_10)) + (1 : Int32)).toNatClampNeg)) (z := 3) (by decide)).mp (by have q0 := mt (zl_ge (x := (sh ((tf + ((2 : Int32) * x6_10)) + (1 : Int32)).toNatClampNeg)) (z := 3) (by decide)).mpr c52; omega)))
              refine z_iconst (v := (0 : Int32)) C dX6_centuryBy_147 (by decide) ?_
              refine z_iadd C dX6_centuryBy_148 ?_
              refine z_put (T := TX6) (ty := .int) C [(h6, .inr (6, fM fl u60.2.1 sl dr (yn_10 + (0 : Int32)) ra rp rs rd ry pk yk rg tc q)), ((q 5), .inl (cI, 9, .inl u60.2.2.1)), ((q 6), .inl (cI, 9, .inl u60.2.2.2.1)), ((q 7), .inl (cI, 9, .inl u60.2.2.2.2)), ((q 27), .inl (cI, 240, .inl sh))] i_X6_centuryBy_6 tyX6 tyX6_ok nmX6 0 rfl rfl 4 (by decide) m_X6_centuryBy_3 rfl rfl (by decide +kernel) rfl rfl (Nat.le_of_ble_eq_true rfl) dX6_centuryBy_149 rfl ?_
              refine z_aload_n C dX6_centuryBy_152 rfl 0 rfl ?_
              refine z_dup C dX6_centuryBy_153 rfl ?_
              refine z_get (T := TX6) (v := .int u60.2.1) C i_X6_centuryBy_6 0 rfl rfl 1 (by decide) m_X6_centuryBy_2 rfl rfl dX6_centuryBy_154 ?_
              refine z_iload C dX6_centuryBy_157 8 rfl ?_
              refine z_iconst (v := (4 : Int32)) C dX6_centuryBy_159 (by decide) ?_
              refine z_icmp_ne (tgt := 172) C dX6_centuryBy_160 (by decide) (fun _ => ?_) (fun h9 => absurd h9 (mt (zl_eq (x := (sh ((tf + ((2 : Int32) * x6_10)) + (1 : Int32)).toNatClampNeg)) (z := 4) (by decide)).mp (by have q0 := mt (zl_ge (x := (sh ((tf + ((2 : Int32) * x6_10)) + (1 : Int32)).toNatClampNeg)) (z := 3) (by decide)).mpr c52; omega)))
              refine z_iconst (v := (0 : Int32)) C dX6_centuryBy_172 (by decide) ?_
              refine z_isub C dX6_centuryBy_173 ?_
              refine z_put (T := TX6) (ty := .int) C [(h6, .inr (6, fM fl (u60.2.1 - (0 : Int32)) sl dr (yn_10 + (0 : Int32)) ra rp rs rd ry pk yk rg tc q)), ((q 5), .inl (cI, 9, .inl u60.2.2.1)), ((q 6), .inl (cI, 9, .inl u60.2.2.2.1)), ((q 7), .inl (cI, 9, .inl u60.2.2.2.2)), ((q 27), .inl (cI, 240, .inl sh))] i_X6_centuryBy_6 tyX6 tyX6_ok nmX6 0 rfl rfl 1 (by decide) m_X6_centuryBy_2 rfl rfl (by decide +kernel) rfl rfl (Nat.le_of_ble_eq_true rfl) dX6_centuryBy_174 rfl ?_
              refine z_iload C dX6_centuryBy_177 9 rfl ?_
              refine z_if_eq (tgt := 187) C dX6_centuryBy_179 (by decide) (fun _ => ?_) (fun h9 => absurd b97 h9)
              refine z_iload C dX6_centuryBy_187 6 rfl ?_
              refine z_istore C [(0, .ref h6), (1, .int tf), (2, .int tn), (3, .int w), (4, .int x6_10), (5, .int (x5_10 + (0 : Int32))), (6, .int x6_10), (7, .int (sh (tf + ((2 : Int32) * x6_10)).toNatClampNeg)), (8, .int (sh ((tf + ((2 : Int32) * x6_10)) + (1 : Int32)).toNatClampNeg)), (9, .int u60.1)] dX6_centuryBy_189 (by decide) [1, 2, 3, 4, 0, 5, 6, 7, 8, 9] rfl ?_
              refine z_iinc (v := (x6_10 + (1 : Int32))) C [(0, .ref h6), (1, .int tf), (2, .int tn), (3, .int w), (4, .int x6_10), (5, .int (x5_10 + (0 : Int32))), (6, .int (x6_10 + (1 : Int32))), (7, .int (sh (tf + ((2 : Int32) * x6_10)).toNatClampNeg)), (8, .int (sh ((tf + ((2 : Int32) * x6_10)) + (1 : Int32)).toNatClampNeg)), (9, .int u60.1)] dX6_centuryBy_191 6 rfl (by rfl) (by decide) [1, 2, 3, 4, 5, 6, 0, 7, 8, 9] rfl ?_
              refine z_goto (tgt := 10) C dX6_centuryBy_194 (by decide) ?_
              refine z_ls [(0, .ref h6), (1, .int tf), (2, .int tn), (3, .int w), (4, .int x6_10), (5, .int (x5_10 + (0 : Int32))), (6, .int (x6_10 + (1 : Int32)))] [0, 1, 2, 3, 4, 5, 6] rfl ?_
              exact ih10 (j + 1) x6_10 (x5_10 + (0 : Int32)) (x6_10 + (1 : Int32)) (u60.2.1 - (0 : Int32)) (yn_10 + (0 : Int32)) u60.2.2.1 u60.2.2.2.1 u60.2.2.2.2 (by subst hu60; exact (by rw [e6]; exact nI_1 j)) (by subst hu60; exact (by have := z_jlt e6 (by omega) (z_tiN hn0 (by omega)) c13; omega)) (by omega) (by subst hu60; exact (by first | exact ⟨q0 + 1, by omega, by have := (threw_np hpq hq9 c97).1; omega, by rw [z_s0]; exact (threw_np hpq hq9 c97).2⟩ | exact ⟨q0, hq1, hq9, by rw [z_s0, threw_no c97]; exact hpq⟩ | exact ⟨q0, hq1, hq9, by rw [z_s0]; exact hpq⟩ | exact ⟨q0 - 1, by have := z_jnle (n := 1) hpq (by omega) (by decide) c77; omega, by omega, z_sub1 hpq hq1⟩)) hf
            · rw [if_neg c97] at hf
              have b97 := c97
              rw [← hu60] at c97
              refine z_aload_n C dX6_centuryBy_100 rfl 0 rfl ?_
              refine z_aload_n C dX6_centuryBy_101 rfl 0 rfl ?_
              refine z_get (T := TX6) (v := .int u60.2.1) C i_X6_centuryBy_6 0 rfl rfl 1 (by decide) m_X6_centuryBy_2 rfl rfl dX6_centuryBy_102 ?_
              refine z_iconst (v := (1 : Int32)) C dX6_centuryBy_105 (by decide) ?_
              refine z_isub C dX6_centuryBy_106 ?_
              refine z_cVR (As := [.int (u60.2.1 - (1 : Int32))]) C (c_X6_wishOf l D cI cO h6 q fl u60.2.1 sl dr yn_10 ra rp rs rd ry pk yk rg tc u60.2.2.1 u60.2.2.2.1 u60.2.2.2.2 (u60.2.1 - (1 : Int32)) (by subst hu60; exact (z_ix9 (z_sub1 (threw_np hpq hq9 c97).2 (by omega)) (by have := (threw_np hpq hq9 c97).1; omega)))) (cwV 1 C.2.2.2.2.1 gX6_centuryBy_X6_wishOf rfl rfl rfl hdV_X6_wishOf ⟨Nat.le_of_ble_eq_true rfl, Nat.le_of_ble_eq_true rfl⟩) [0, 1, 2, 3] rfl rfl 0 rfl rfl rfl _ rfl (Nat.le_of_ble_eq_true rfl) ⟨Nat.zero_le _, Nat.zero_le _⟩ dX6_centuryBy_107 ?_
              generalize hu107 : (F_X6_wishOf sl dr u60.2.2.1 u60.2.2.2.1 u60.2.2.2.2 (u60.2.1 - (1 : Int32))) = u107 at hf ⊢
              refine z_aload_n C dX6_centuryBy_110 rfl 0 rfl ?_
              refine z_aload_n C dX6_centuryBy_111 rfl 0 rfl ?_
              refine z_get (T := TX6) (v := .int u60.2.1) C i_X6_centuryBy_6 0 rfl rfl 1 (by decide) m_X6_centuryBy_2 rfl rfl dX6_centuryBy_112 ?_
              refine z_iconst (v := (2 : Int32)) C dX6_centuryBy_115 (by decide) ?_
              refine z_isub C dX6_centuryBy_116 ?_
              refine z_cVR (As := [.int (u60.2.1 - (2 : Int32))]) C (c_X6_wishOf l D cI cO h6 q fl u60.2.1 sl dr yn_10 ra rp rs rd ry pk yk rg tc u60.2.2.1 u60.2.2.2.1 u60.2.2.2.2 (u60.2.1 - (2 : Int32)) (by subst hu107 hu60; exact (z_ix9 (z_sub2 (threw_np hpq hq9 c97).2 (by omega)) (by have := (threw_np hpq hq9 c97).1; omega)))) (cwV 1 C.2.2.2.2.1 gX6_centuryBy_X6_wishOf rfl rfl rfl hdV_X6_wishOf ⟨Nat.le_of_ble_eq_true rfl, Nat.le_of_ble_eq_true rfl⟩) [0, 1, 2, 3] rfl rfl 0 rfl rfl rfl _ rfl (Nat.le_of_ble_eq_true rfl) ⟨Nat.zero_le _, Nat.zero_le _⟩ dX6_centuryBy_117 ?_
              generalize hu117 : (F_X6_wishOf sl dr u60.2.2.1 u60.2.2.2.1 u60.2.2.2.2 (u60.2.1 - (2 : Int32))) = u117 at hf ⊢
              refine z_icmp_ne (tgt := 127) C dX6_centuryBy_120 (by decide) (fun c120 => ?_) (fun c120 => ?_)
              · rw [if_neg c120] at hf
                have b120 := c120
                rw [← hu117, ← hu107] at c120
                refine z_iconst (v := (0 : Int32)) C dX6_centuryBy_127 (by decide) ?_
                refine z_iadd C dX6_centuryBy_128 ?_
                refine z_istore C [(0, .ref h6), (1, .int tf), (2, .int tn), (3, .int w), (4, .int x4_10), (5, .int (x5_10 + (0 : Int32))), (6, .int x6_10), (7, .int (sh (tf + ((2 : Int32) * x6_10)).toNatClampNeg)), (8, .int (sh ((tf + ((2 : Int32) * x6_10)) + (1 : Int32)).toNatClampNeg)), (9, .int u60.1)] dX6_centuryBy_129 (by decide) [1, 2, 3, 4, 5, 0, 6, 7, 8, 9] rfl ?_
                refine z_aload_n C dX6_centuryBy_131 rfl 0 rfl ?_
                refine z_dup C dX6_centuryBy_132 rfl ?_
                refine z_get (T := TX6) (v := .int yn_10) C i_X6_centuryBy_6 0 rfl rfl 4 (by decide) m_X6_centuryBy_3 rfl rfl dX6_centuryBy_133 ?_
                refine z_iload C dX6_centuryBy_136 8 rfl ?_
                refine z_iconst (v := (3 : Int32)) C dX6_centuryBy_138 (by decide) ?_
                refine z_icmp_ne (tgt := 147) C dX6_centuryBy_139 (by decide) (fun _ => ?_) (fun h9 => absurd h9 (mt (zl_eq (x := (sh ((tf + ((2 : Int32) * x6_10)) + (1 : Int32)).toNatClampNeg)) (z := 3) (by decide)).mp (by have q0 := mt (zl_ge (x := (sh ((tf + ((2 : Int32) * x6_10)) + (1 : Int32)).toNatClampNeg)) (z := 3) (by decide)).mpr c52; omega)))
                refine z_iconst (v := (0 : Int32)) C dX6_centuryBy_147 (by decide) ?_
                refine z_iadd C dX6_centuryBy_148 ?_
                refine z_put (T := TX6) (ty := .int) C [(h6, .inr (6, fM fl u60.2.1 sl dr (yn_10 + (0 : Int32)) ra rp rs rd ry pk yk rg tc q)), ((q 5), .inl (cI, 9, .inl u60.2.2.1)), ((q 6), .inl (cI, 9, .inl u60.2.2.2.1)), ((q 7), .inl (cI, 9, .inl u60.2.2.2.2)), ((q 27), .inl (cI, 240, .inl sh))] i_X6_centuryBy_6 tyX6 tyX6_ok nmX6 0 rfl rfl 4 (by decide) m_X6_centuryBy_3 rfl rfl (by decide +kernel) rfl rfl (Nat.le_of_ble_eq_true rfl) dX6_centuryBy_149 rfl ?_
                refine z_aload_n C dX6_centuryBy_152 rfl 0 rfl ?_
                refine z_dup C dX6_centuryBy_153 rfl ?_
                refine z_get (T := TX6) (v := .int u60.2.1) C i_X6_centuryBy_6 0 rfl rfl 1 (by decide) m_X6_centuryBy_2 rfl rfl dX6_centuryBy_154 ?_
                refine z_iload C dX6_centuryBy_157 8 rfl ?_
                refine z_iconst (v := (4 : Int32)) C dX6_centuryBy_159 (by decide) ?_
                refine z_icmp_ne (tgt := 172) C dX6_centuryBy_160 (by decide) (fun _ => ?_) (fun h9 => absurd h9 (mt (zl_eq (x := (sh ((tf + ((2 : Int32) * x6_10)) + (1 : Int32)).toNatClampNeg)) (z := 4) (by decide)).mp (by have q0 := mt (zl_ge (x := (sh ((tf + ((2 : Int32) * x6_10)) + (1 : Int32)).toNatClampNeg)) (z := 3) (by decide)).mpr c52; omega)))
                refine z_iconst (v := (0 : Int32)) C dX6_centuryBy_172 (by decide) ?_
                refine z_isub C dX6_centuryBy_173 ?_
                refine z_put (T := TX6) (ty := .int) C [(h6, .inr (6, fM fl (u60.2.1 - (0 : Int32)) sl dr (yn_10 + (0 : Int32)) ra rp rs rd ry pk yk rg tc q)), ((q 5), .inl (cI, 9, .inl u60.2.2.1)), ((q 6), .inl (cI, 9, .inl u60.2.2.2.1)), ((q 7), .inl (cI, 9, .inl u60.2.2.2.2)), ((q 27), .inl (cI, 240, .inl sh))] i_X6_centuryBy_6 tyX6 tyX6_ok nmX6 0 rfl rfl 1 (by decide) m_X6_centuryBy_2 rfl rfl (by decide +kernel) rfl rfl (Nat.le_of_ble_eq_true rfl) dX6_centuryBy_174 rfl ?_
                refine z_iload C dX6_centuryBy_177 9 rfl ?_
                refine z_if_eq (tgt := 187) C dX6_centuryBy_179 (by decide) (fun h9 => absurd h9 b97) (fun _ => ?_)
                refine z_bipush (v := (-9 : Int32)) C dX6_centuryBy_182 (by decide) ?_
                refine z_goto (tgt := 189) C dX6_centuryBy_184 (by decide) ?_
                refine z_istore C [(0, .ref h6), (1, .int tf), (2, .int tn), (3, .int w), (4, .int (-9 : Int32)), (5, .int (x5_10 + (0 : Int32))), (6, .int x6_10), (7, .int (sh (tf + ((2 : Int32) * x6_10)).toNatClampNeg)), (8, .int (sh ((tf + ((2 : Int32) * x6_10)) + (1 : Int32)).toNatClampNeg)), (9, .int u60.1)] dX6_centuryBy_189 (by decide) [1, 2, 3, 4, 0, 5, 6, 7, 8, 9] rfl ?_
                refine z_iinc (v := (x6_10 + (1 : Int32))) C [(0, .ref h6), (1, .int tf), (2, .int tn), (3, .int w), (4, .int (-9 : Int32)), (5, .int (x5_10 + (0 : Int32))), (6, .int (x6_10 + (1 : Int32))), (7, .int (sh (tf + ((2 : Int32) * x6_10)).toNatClampNeg)), (8, .int (sh ((tf + ((2 : Int32) * x6_10)) + (1 : Int32)).toNatClampNeg)), (9, .int u60.1)] dX6_centuryBy_191 6 rfl (by rfl) (by decide) [1, 2, 3, 4, 5, 6, 0, 7, 8, 9] rfl ?_
                refine z_goto (tgt := 10) C dX6_centuryBy_194 (by decide) ?_
                refine z_ls [(0, .ref h6), (1, .int tf), (2, .int tn), (3, .int w), (4, .int (-9 : Int32)), (5, .int (x5_10 + (0 : Int32))), (6, .int (x6_10 + (1 : Int32)))] [0, 1, 2, 3, 4, 5, 6] rfl ?_
                exact ih10 (j + 1) (-9 : Int32) (x5_10 + (0 : Int32)) (x6_10 + (1 : Int32)) (u60.2.1 - (0 : Int32)) (yn_10 + (0 : Int32)) u60.2.2.1 u60.2.2.2.1 u60.2.2.2.2 (by subst hu117 hu107 hu60; exact (by rw [e6]; exact nI_1 j)) (by subst hu117 hu107 hu60; exact (by have := z_jlt e6 (by omega) (z_tiN hn0 (by omega)) c13; omega)) (by omega) (by subst hu117 hu107 hu60; exact (by first | exact ⟨q0 + 1, by omega, by have := (threw_np hpq hq9 c97).1; omega, by rw [z_s0]; exact (threw_np hpq hq9 c97).2⟩ | exact ⟨q0, hq1, hq9, by rw [z_s0, threw_no c97]; exact hpq⟩ | exact ⟨q0, hq1, hq9, by rw [z_s0]; exact hpq⟩ | exact ⟨q0 - 1, by have := z_jnle (n := 1) hpq (by omega) (by decide) c77; omega, by omega, z_sub1 hpq hq1⟩)) hf
              · rw [if_pos c120] at hf
                have b120 := c120
                rw [← hu117, ← hu107] at c120
                refine z_iconst (v := (1 : Int32)) C dX6_centuryBy_123 (by decide) ?_
                refine z_goto (tgt := 128) C dX6_centuryBy_124 (by decide) ?_
                refine z_iadd C dX6_centuryBy_128 ?_
                refine z_istore C [(0, .ref h6), (1, .int tf), (2, .int tn), (3, .int w), (4, .int x4_10), (5, .int (x5_10 + (1 : Int32))), (6, .int x6_10), (7, .int (sh (tf + ((2 : Int32) * x6_10)).toNatClampNeg)), (8, .int (sh ((tf + ((2 : Int32) * x6_10)) + (1 : Int32)).toNatClampNeg)), (9, .int u60.1)] dX6_centuryBy_129 (by decide) [1, 2, 3, 4, 5, 0, 6, 7, 8, 9] rfl ?_
                refine z_aload_n C dX6_centuryBy_131 rfl 0 rfl ?_
                refine z_dup C dX6_centuryBy_132 rfl ?_
                refine z_get (T := TX6) (v := .int yn_10) C i_X6_centuryBy_6 0 rfl rfl 4 (by decide) m_X6_centuryBy_3 rfl rfl dX6_centuryBy_133 ?_
                refine z_iload C dX6_centuryBy_136 8 rfl ?_
                refine z_iconst (v := (3 : Int32)) C dX6_centuryBy_138 (by decide) ?_
                refine z_icmp_ne (tgt := 147) C dX6_centuryBy_139 (by decide) (fun _ => ?_) (fun h9 => absurd h9 (mt (zl_eq (x := (sh ((tf + ((2 : Int32) * x6_10)) + (1 : Int32)).toNatClampNeg)) (z := 3) (by decide)).mp (by have q0 := mt (zl_ge (x := (sh ((tf + ((2 : Int32) * x6_10)) + (1 : Int32)).toNatClampNeg)) (z := 3) (by decide)).mpr c52; omega)))
                refine z_iconst (v := (0 : Int32)) C dX6_centuryBy_147 (by decide) ?_
                refine z_iadd C dX6_centuryBy_148 ?_
                refine z_put (T := TX6) (ty := .int) C [(h6, .inr (6, fM fl u60.2.1 sl dr (yn_10 + (0 : Int32)) ra rp rs rd ry pk yk rg tc q)), ((q 5), .inl (cI, 9, .inl u60.2.2.1)), ((q 6), .inl (cI, 9, .inl u60.2.2.2.1)), ((q 7), .inl (cI, 9, .inl u60.2.2.2.2)), ((q 27), .inl (cI, 240, .inl sh))] i_X6_centuryBy_6 tyX6 tyX6_ok nmX6 0 rfl rfl 4 (by decide) m_X6_centuryBy_3 rfl rfl (by decide +kernel) rfl rfl (Nat.le_of_ble_eq_true rfl) dX6_centuryBy_149 rfl ?_
                refine z_aload_n C dX6_centuryBy_152 rfl 0 rfl ?_
                refine z_dup C dX6_centuryBy_153 rfl ?_
                refine z_get (T := TX6) (v := .int u60.2.1) C i_X6_centuryBy_6 0 rfl rfl 1 (by decide) m_X6_centuryBy_2 rfl rfl dX6_centuryBy_154 ?_
                refine z_iload C dX6_centuryBy_157 8 rfl ?_
                refine z_iconst (v := (4 : Int32)) C dX6_centuryBy_159 (by decide) ?_
                refine z_icmp_ne (tgt := 172) C dX6_centuryBy_160 (by decide) (fun _ => ?_) (fun h9 => absurd h9 (mt (zl_eq (x := (sh ((tf + ((2 : Int32) * x6_10)) + (1 : Int32)).toNatClampNeg)) (z := 4) (by decide)).mp (by have q0 := mt (zl_ge (x := (sh ((tf + ((2 : Int32) * x6_10)) + (1 : Int32)).toNatClampNeg)) (z := 3) (by decide)).mpr c52; omega)))
                refine z_iconst (v := (0 : Int32)) C dX6_centuryBy_172 (by decide) ?_
                refine z_isub C dX6_centuryBy_173 ?_
                refine z_put (T := TX6) (ty := .int) C [(h6, .inr (6, fM fl (u60.2.1 - (0 : Int32)) sl dr (yn_10 + (0 : Int32)) ra rp rs rd ry pk yk rg tc q)), ((q 5), .inl (cI, 9, .inl u60.2.2.1)), ((q 6), .inl (cI, 9, .inl u60.2.2.2.1)), ((q 7), .inl (cI, 9, .inl u60.2.2.2.2)), ((q 27), .inl (cI, 240, .inl sh))] i_X6_centuryBy_6 tyX6 tyX6_ok nmX6 0 rfl rfl 1 (by decide) m_X6_centuryBy_2 rfl rfl (by decide +kernel) rfl rfl (Nat.le_of_ble_eq_true rfl) dX6_centuryBy_174 rfl ?_
                refine z_iload C dX6_centuryBy_177 9 rfl ?_
                refine z_if_eq (tgt := 187) C dX6_centuryBy_179 (by decide) (fun h9 => absurd h9 b97) (fun _ => ?_)
                refine z_bipush (v := (-9 : Int32)) C dX6_centuryBy_182 (by decide) ?_
                refine z_goto (tgt := 189) C dX6_centuryBy_184 (by decide) ?_
                refine z_istore C [(0, .ref h6), (1, .int tf), (2, .int tn), (3, .int w), (4, .int (-9 : Int32)), (5, .int (x5_10 + (1 : Int32))), (6, .int x6_10), (7, .int (sh (tf + ((2 : Int32) * x6_10)).toNatClampNeg)), (8, .int (sh ((tf + ((2 : Int32) * x6_10)) + (1 : Int32)).toNatClampNeg)), (9, .int u60.1)] dX6_centuryBy_189 (by decide) [1, 2, 3, 4, 0, 5, 6, 7, 8, 9] rfl ?_
                refine z_iinc (v := (x6_10 + (1 : Int32))) C [(0, .ref h6), (1, .int tf), (2, .int tn), (3, .int w), (4, .int (-9 : Int32)), (5, .int (x5_10 + (1 : Int32))), (6, .int (x6_10 + (1 : Int32))), (7, .int (sh (tf + ((2 : Int32) * x6_10)).toNatClampNeg)), (8, .int (sh ((tf + ((2 : Int32) * x6_10)) + (1 : Int32)).toNatClampNeg)), (9, .int u60.1)] dX6_centuryBy_191 6 rfl (by rfl) (by decide) [1, 2, 3, 4, 5, 6, 0, 7, 8, 9] rfl ?_
                refine z_goto (tgt := 10) C dX6_centuryBy_194 (by decide) ?_
                refine z_ls [(0, .ref h6), (1, .int tf), (2, .int tn), (3, .int w), (4, .int (-9 : Int32)), (5, .int (x5_10 + (1 : Int32))), (6, .int (x6_10 + (1 : Int32)))] [0, 1, 2, 3, 4, 5, 6] rfl ?_
                exact ih10 (j + 1) (-9 : Int32) (x5_10 + (1 : Int32)) (x6_10 + (1 : Int32)) (u60.2.1 - (0 : Int32)) (yn_10 + (0 : Int32)) u60.2.2.1 u60.2.2.2.1 u60.2.2.2.2 (by subst hu117 hu107 hu60; exact (by rw [e6]; exact nI_1 j)) (by subst hu117 hu107 hu60; exact (by have := z_jlt e6 (by omega) (z_tiN hn0 (by omega)) c13; omega)) (by omega) (by subst hu117 hu107 hu60; exact (by first | exact ⟨q0 + 1, by omega, by have := (threw_np hpq hq9 c97).1; omega, by rw [z_s0]; exact (threw_np hpq hq9 c97).2⟩ | exact ⟨q0, hq1, hq9, by rw [z_s0, threw_no c97]; exact hpq⟩ | exact ⟨q0, hq1, hq9, by rw [z_s0]; exact hpq⟩ | exact ⟨q0 - 1, by have := z_jnle (n := 1) hpq (by omega) (by decide) c77; omega, by omega, z_sub1 hpq hq1⟩)) hf
  exact L10 31 0 (-9 : Int32) (0 : Int32) (0 : Int32) pn yn ko bo yo nI_0.symm (Nat.zero_le _) (by omega) ⟨np, hnp1, hnp, hpn⟩ hf
-- X6_century
theorem m_X6_century_1 : Cond.constantLong RX6 117 (2) ∈ wsX6_century := List.mem_of_getElem? (i := 1) rfl
theorem m_X6_century_2 : Cond.constantLong RX6 170 (20) ∈ wsX6_century := List.mem_of_getElem? (i := 2) rfl
theorem m_X6_century_3 : Cond.constantLong RX6 168 (4) ∈ wsX6_century := List.mem_of_getElem? (i := 3) rfl
theorem m_X6_century_4 : Cond.constantLong RX6 172 (10) ∈ wsX6_century := List.mem_of_getElem? (i := 4) rfl
theorem m_X6_century_5 : Cond.constantLong RX6 174 (18) ∈ wsX6_century := List.mem_of_getElem? (i := 5) rfl
theorem i_X6_century_6 : ∀ w ∈ u_ws RX6 TX6 30, w ∈ wsX6_century := by decide +kernel
theorem m_X6_century_6 : Cond.fieldLink RX6 68 "WishPinsModel" "pins" "I" ∈ wsX6_century := List.mem_of_getElem? (i := 6) rfl
theorem m_X6_century_7 : Cond.fieldLink RX6 52 "WishPinsModel" "sheet" "[I" ∈ wsX6_century := List.mem_of_getElem? (i := 7) rfl
def F_X6_century_k114 (pn : Int32) (sl : Int32) (dr : Int32) (yn : Int32) (ko : Nat → Int32) (bo : Nat → Int32) (yo : Nat → Int32) (kk : Nat → Int32) (bk : Nat → Int32) (tk : Nat → Int32) (sh : Nat → Int32) (k : Int32) (i : Int32) (n : Int32) (w : Int32) (x7_114 : Int32) : Int32 × Int32 × Int32 × Int32 × Int32 × Int32 × (Nat → Int32) × (Nat → Int32) × (Nat → Int32) × (Nat → Int32) × (Nat → Int32) × (Nat → Int32) :=
  ((F_X6_refused (F_X6_centuryBy pn sl dr yn ko bo yo sh (((60 : Int32) * k) + i) n w).1).1, (F_X6_refused (F_X6_centuryBy pn sl dr yn ko bo yo sh (((60 : Int32) * k) + i) n w).1).2, (F_X6_bringBack (F_X6_keepAll pn yn ko bo yo kk bk tk).1 (F_X6_keepAll pn yn ko bo yo kk bk tk).2.1 (F_X6_centuryBy pn sl dr yn ko bo yo sh (((60 : Int32) * k) + i) n w).2.2.2.1 (F_X6_centuryBy pn sl dr yn ko bo yo sh (((60 : Int32) * k) + i) n w).2.2.2.2.1 (F_X6_centuryBy pn sl dr yn ko bo yo sh (((60 : Int32) * k) + i) n w).2.2.2.2.2 (F_X6_keepAll pn yn ko bo yo kk bk tk).2.2.1 (F_X6_keepAll pn yn ko bo yo kk bk tk).2.2.2.1 (F_X6_keepAll pn yn ko bo yo kk bk tk).2.2.2.2).1, (F_X6_keepAll pn yn ko bo yo kk bk tk).1, (F_X6_keepAll pn yn ko bo yo kk bk tk).2.1, (F_X6_bringBack (F_X6_keepAll pn yn ko bo yo kk bk tk).1 (F_X6_keepAll pn yn ko bo yo kk bk tk).2.1 (F_X6_centuryBy pn sl dr yn ko bo yo sh (((60 : Int32) * k) + i) n w).2.2.2.1 (F_X6_centuryBy pn sl dr yn ko bo yo sh (((60 : Int32) * k) + i) n w).2.2.2.2.1 (F_X6_centuryBy pn sl dr yn ko bo yo sh (((60 : Int32) * k) + i) n w).2.2.2.2.2 (F_X6_keepAll pn yn ko bo yo kk bk tk).2.2.1 (F_X6_keepAll pn yn ko bo yo kk bk tk).2.2.2.1 (F_X6_keepAll pn yn ko bo yo kk bk tk).2.2.2.2).2.1, (F_X6_bringBack (F_X6_keepAll pn yn ko bo yo kk bk tk).1 (F_X6_keepAll pn yn ko bo yo kk bk tk).2.1 (F_X6_centuryBy pn sl dr yn ko bo yo sh (((60 : Int32) * k) + i) n w).2.2.2.1 (F_X6_centuryBy pn sl dr yn ko bo yo sh (((60 : Int32) * k) + i) n w).2.2.2.2.1 (F_X6_centuryBy pn sl dr yn ko bo yo sh (((60 : Int32) * k) + i) n w).2.2.2.2.2 (F_X6_keepAll pn yn ko bo yo kk bk tk).2.2.1 (F_X6_keepAll pn yn ko bo yo kk bk tk).2.2.2.1 (F_X6_keepAll pn yn ko bo yo kk bk tk).2.2.2.2).2.2.1, (F_X6_bringBack (F_X6_keepAll pn yn ko bo yo kk bk tk).1 (F_X6_keepAll pn yn ko bo yo kk bk tk).2.1 (F_X6_centuryBy pn sl dr yn ko bo yo sh (((60 : Int32) * k) + i) n w).2.2.2.1 (F_X6_centuryBy pn sl dr yn ko bo yo sh (((60 : Int32) * k) + i) n w).2.2.2.2.1 (F_X6_centuryBy pn sl dr yn ko bo yo sh (((60 : Int32) * k) + i) n w).2.2.2.2.2 (F_X6_keepAll pn yn ko bo yo kk bk tk).2.2.1 (F_X6_keepAll pn yn ko bo yo kk bk tk).2.2.2.1 (F_X6_keepAll pn yn ko bo yo kk bk tk).2.2.2.2).2.2.2.1, (F_X6_bringBack (F_X6_keepAll pn yn ko bo yo kk bk tk).1 (F_X6_keepAll pn yn ko bo yo kk bk tk).2.1 (F_X6_centuryBy pn sl dr yn ko bo yo sh (((60 : Int32) * k) + i) n w).2.2.2.1 (F_X6_centuryBy pn sl dr yn ko bo yo sh (((60 : Int32) * k) + i) n w).2.2.2.2.1 (F_X6_centuryBy pn sl dr yn ko bo yo sh (((60 : Int32) * k) + i) n w).2.2.2.2.2 (F_X6_keepAll pn yn ko bo yo kk bk tk).2.2.1 (F_X6_keepAll pn yn ko bo yo kk bk tk).2.2.2.1 (F_X6_keepAll pn yn ko bo yo kk bk tk).2.2.2.2).2.2.2.2, (F_X6_keepAll pn yn ko bo yo kk bk tk).2.2.1, (F_X6_keepAll pn yn ko bo yo kk bk tk).2.2.2.1, (F_X6_keepAll pn yn ko bo yo kk bk tk).2.2.2.2)
def F_X6_century_l114 (pn : Int32) (yn : Int32) (pk : Int32) (yk : Int32) (ko : Nat → Int32) (bo : Nat → Int32) (yo : Nat → Int32) (kk : Nat → Int32) (bk : Nat → Int32) (tk : Nat → Int32) (sh : Nat → Int32) (k : Int32) (i : Int32) (n : Int32) (K_ : Int32 → Int32 × Int32 × Int32 × Int32 × Int32 × Int32 × (Nat → Int32) × (Nat → Int32) × (Nat → Int32) × (Nat → Int32) × (Nat → Int32) × (Nat → Int32)) : Nat → Int32 → Int32 × Int32 × Int32 × Int32 × Int32 × Int32 × (Nat → Int32) × (Nat → Int32) × (Nat → Int32) × (Nat → Int32) × (Nat → Int32) × (Nat → Int32)
  | 0, x7_114 => K_ x7_114
  | d114 + 1, x7_114 => (if n ≤ x7_114 then (K_ x7_114) else (if (F_X6_isPair (sh ((((60 : Int32) * k) + i) + ((2 : Int32) * x7_114)).toNatClampNeg) (sh (((((60 : Int32) * k) + i) + ((2 : Int32) * x7_114)) + (1 : Int32)).toNatClampNeg)) = 0 then ((F_X6_refused (-2 : Int32)).1, (F_X6_refused (-2 : Int32)).2, pn, pk, yk, yn, ko, bo, yo, kk, bk, tk) else (F_X6_century_l114 pn yn pk yk ko bo yo kk bk tk sh k i n K_ d114 (x7_114 + (1 : Int32)))))
def F_X6_century_j73 (fl : Int32) (pn : Int32) (sl : Int32) (dr : Int32) (yn : Int32) (pk : Int32) (yk : Int32) (ko : Nat → Int32) (bo : Nat → Int32) (yo : Nat → Int32) (kk : Nat → Int32) (bk : Nat → Int32) (tk : Nat → Int32) (ss : Nat → Int32) (sa : Nat → Int32) (sh : Nat → Int32) (k : Int32) (la : Int32) (i : Int32) (n : Int32) (w : Int32) : Int32 × Int32 × Int32 × Int32 × Int32 × Int32 × (Nat → Int32) × (Nat → Int32) × (Nat → Int32) × (Nat → Int32) × (Nat → Int32) × (Nat → Int32) :=
  (if pn = 0 then ((F_X6_refused (-3 : Int32)).1, (F_X6_refused (-3 : Int32)).2, pn, pk, yk, yn, ko, bo, yo, kk, bk, tk) else (if 0 ≤ (F_X6_cellsBarred fl ss sa k la i ((2 : Int64) * n.toInt64)).1 then (F_X6_century_l114 pn yn pk yk ko bo yo kk bk tk sh k i n (F_X6_century_k114 pn sl dr yn ko bo yo kk bk tk sh k i n w) 31 (0 : Int32)) else ((F_X6_cellsBarred fl ss sa k la i ((2 : Int64) * n.toInt64)).1, (F_X6_cellsBarred fl ss sa k la i ((2 : Int64) * n.toInt64)).2, pn, pk, yk, yn, ko, bo, yo, kk, bk, tk)))
def F_X6_century (fl : Int32) (pn : Int32) (sl : Int32) (dr : Int32) (yn : Int32) (pk : Int32) (yk : Int32) (ko : Nat → Int32) (bo : Nat → Int32) (yo : Nat → Int32) (kk : Nat → Int32) (bk : Nat → Int32) (tk : Nat → Int32) (ss : Nat → Int32) (sa : Nat → Int32) (sh : Nat → Int32) (k : Int32) (la : Int32) (i : Int32) (n : Int32) (w : Int32) : Int32 × Int32 × Int32 × Int32 × Int32 × Int32 × (Nat → Int32) × (Nat → Int32) × (Nat → Int32) × (Nat → Int32) × (Nat → Int32) × (Nat → Int32) :=
  (if (F_X6_noSheet k) = 0 then (if (F_X6_in la.toInt64 (0 : Int64) (2 : Int64)) = 0 then ((F_X6_refused (-2 : Int32)).1, (F_X6_refused (-2 : Int32)).2, pn, pk, yk, yn, ko, bo, yo, kk, bk, tk) else (if (F_X6_in n.toInt64 (0 : Int64) (20 : Int64)) = 0 then ((F_X6_refused (-2 : Int32)).1, (F_X6_refused (-2 : Int32)).2, pn, pk, yk, yn, ko, bo, yo, kk, bk, tk) else (if (F_X6_in w.toInt64 (0 : Int64) (4 : Int64)) = 0 then (if (F_X6_in w.toInt64 (10 : Int64) (18 : Int64)) = 0 then ((F_X6_refused (-2 : Int32)).1, (F_X6_refused (-2 : Int32)).2, pn, pk, yk, yn, ko, bo, yo, kk, bk, tk) else (F_X6_century_j73 fl pn sl dr yn pk yk ko bo yo kk bk tk ss sa sh k la i n w)) else (F_X6_century_j73 fl pn sl dr yn pk yk ko bo yo kk bk tk ss sa sh k la i n w)))) else ((F_X6_refused (-1 : Int32)).1, (F_X6_refused (-1 : Int32)).2, pn, pk, yk, yn, ko, bo, yo, kk, bk, tk))
set_option maxHeartbeats 4000000 in
set_option maxRecDepth 100000 in
theorem c_X6_century (l : Launch) (D : va_G) (cI cO : ClassId) (h6 : Nat) (q : Nat → Nat) (fl : Int32) (pn : Int32) (sl : Int32) (dr : Int32) (yn : Int32) (ra : Int32) (rp : Int32) (rs : Int32) (rd : Int32) (ry : Int32) (pk : Int32) (yk : Int32) (rg : Int32) (tc : Int32) (ko : Nat → Int32) (bo : Nat → Int32) (yo : Nat → Int32) (kk : Nat → Int32) (bk : Nat → Int32) (tk : Nat → Int32) (ss : Nat → Int32) (sa : Nat → Int32) (sh : Nat → Int32) (k : Int32) (la : Int32) (i : Int32) (n : Int32) (w : Int32) (np : Nat) (hss : ∀ i, i < 4 → (ss i).toInt ≤ 60) (hpn : pn = nI np) (hnp : np ≤ 9) : zW l yX6_century wsX6_century ({ frames := 4, cells := 0, slots := 0, locals := 92 } : Room) D cI cO [.ref h6, .int k, .int la, .int i, .int n, .int w] [(h6, .inr (6, fM fl pn sl dr yn ra rp rs rd ry pk yk rg tc q)), ((q 5), .inl (cI, 9, .inl ko)), ((q 6), .inl (cI, 9, .inl bo)), ((q 7), .inl (cI, 9, .inl yo)), ((q 18), .inl (cI, 9, .inl kk)), ((q 19), .inl (cI, 9, .inl bk)), ((q 20), .inl (cI, 9, .inl tk)), ((q 25), .inl (cI, 4, .inl ss)), ((q 26), .inl (cI, 4, .inl sa)), ((q 27), .inl (cI, 240, .inl sh))] [(h6, .inr (6, fM ((F_X6_century fl pn sl dr yn pk yk ko bo yo kk bk tk ss sa sh k la i n w).2.1) ((F_X6_century fl pn sl dr yn pk yk ko bo yo kk bk tk ss sa sh k la i n w).2.2.1) sl dr ((F_X6_century fl pn sl dr yn pk yk ko bo yo kk bk tk ss sa sh k la i n w).2.2.2.2.2.1) ra rp rs rd ry ((F_X6_century fl pn sl dr yn pk yk ko bo yo kk bk tk ss sa sh k la i n w).2.2.2.1) ((F_X6_century fl pn sl dr yn pk yk ko bo yo kk bk tk ss sa sh k la i n w).2.2.2.2.1) rg tc q)), ((q 5), .inl (cI, 9, .inl ((F_X6_century fl pn sl dr yn pk yk ko bo yo kk bk tk ss sa sh k la i n w).2.2.2.2.2.2.1))), ((q 6), .inl (cI, 9, .inl ((F_X6_century fl pn sl dr yn pk yk ko bo yo kk bk tk ss sa sh k la i n w).2.2.2.2.2.2.2.1))), ((q 7), .inl (cI, 9, .inl ((F_X6_century fl pn sl dr yn pk yk ko bo yo kk bk tk ss sa sh k la i n w).2.2.2.2.2.2.2.2.1))), ((q 18), .inl (cI, 9, .inl ((F_X6_century fl pn sl dr yn pk yk ko bo yo kk bk tk ss sa sh k la i n w).2.2.2.2.2.2.2.2.2.1))), ((q 19), .inl (cI, 9, .inl ((F_X6_century fl pn sl dr yn pk yk ko bo yo kk bk tk ss sa sh k la i n w).2.2.2.2.2.2.2.2.2.2.1))), ((q 20), .inl (cI, 9, .inl ((F_X6_century fl pn sl dr yn pk yk ko bo yo kk bk tk ss sa sh k la i n w).2.2.2.2.2.2.2.2.2.2.2))), ((q 25), .inl (cI, 4, .inl ss)), ((q 26), .inl (cI, 4, .inl sa)), ((q 27), .inl (cI, 240, .inl sh))] (some (.int ((F_X6_century fl pn sl dr yn pk yk ko bo yo kk bk tk ss sa sh k la i n w).1))) := by
  refine zW_of (nL := 8) (cc := cX6_century) (ret := some .int) (lv := [(0, .ref h6), (1, .int k), (2, .int la), (3, .int i), (4, .int n), (5, .int w)]) (by decide +kernel) rfl (Nat.le_of_ble_eq_true rfl) rfl (fun p e s m args below meth c C hr hlk => ?_)
  have hf := F_X6_century.eq_1 fl pn sl dr yn pk yk ko bo yo kk bk tk ss sa sh k la i n w
  refine z_iload_n C dX6_century_0 rfl 1 rfl ?_
  refine z_cSR (As := [.int k]) C (c_X6_noSheet l D cI cO k) (va_cwS 1 C.2.2.2.2.1 gX6_century_X6_noSheet rfl rfl rfl hdS_X6_noSheet ⟨Nat.le_of_ble_eq_true rfl, Nat.le_of_ble_eq_true rfl⟩) [] rfl rfl rfl _ rfl (Nat.le_of_ble_eq_true rfl) ⟨Nat.zero_le _, Nat.zero_le _⟩ dX6_century_1 ?_
  generalize hu1 : (F_X6_noSheet k) = u1 at hf ⊢
  refine z_if_eq (tgt := 13) C dX6_century_4 (by decide) (fun c4 => ?_) (fun c4 => ?_)
  · rw [if_pos c4] at hf
    have b4 := c4
    rw [← hu1] at c4
    refine z_iload_n C dX6_century_13 rfl 2 rfl ?_
    refine z_i2l C dX6_century_14 ?_
    refine z_lconst (v := (0 : Int64)) C dX6_century_15 (by decide) ?_
    refine z_ldc2 C m_X6_century_1 dX6_century_16 ?_
    refine z_cSR (As := [.long la.toInt64, .long (0 : Int64), .long (2 : Int64)]) C (c_X6_in l D cI cO la.toInt64 (0 : Int64) (2 : Int64)) (va_cwS 3 C.2.2.2.2.1 gX6_century_X6_in rfl rfl rfl hdS_X6_in ⟨Nat.le_of_ble_eq_true rfl, Nat.le_of_ble_eq_true rfl⟩) [] rfl rfl rfl _ rfl (Nat.le_of_ble_eq_true rfl) ⟨Nat.zero_le _, Nat.zero_le _⟩ dX6_century_19 ?_
    generalize hu19 : (F_X6_in la.toInt64 (0 : Int64) (2 : Int64)) = u19 at hf ⊢
    refine z_if_eq (tgt := 66) C dX6_century_22 (by decide) (fun c22 => ?_) (fun c22 => ?_)
    · rw [if_pos c22] at hf
      have b22 := c22
      rw [← hu19] at c22
      refine z_aload_n C dX6_century_66 rfl 0 rfl ?_
      refine z_bipush (v := (-2 : Int32)) C dX6_century_67 (by decide) ?_
      refine z_cVW (As := [.int (-2 : Int32)]) C (c_X6_refused l D cI cO h6 q fl pn sl dr yn ra rp rs rd ry pk yk rg tc (-2 : Int32)) (cwV 1 C.2.2.2.2.1 gX6_century_X6_refused rfl rfl rfl hdV_X6_refused ⟨Nat.le_of_ble_eq_true rfl, Nat.le_of_ble_eq_true rfl⟩) [(h6, .inr (6, fM ((F_X6_refused (-2 : Int32)).2) pn sl dr yn ra rp rs rd ry pk yk rg tc q)), ((q 5), .inl (cI, 9, .inl ko)), ((q 6), .inl (cI, 9, .inl bo)), ((q 7), .inl (cI, 9, .inl yo)), ((q 18), .inl (cI, 9, .inl kk)), ((q 19), .inl (cI, 9, .inl bk)), ((q 20), .inl (cI, 9, .inl tk)), ((q 25), .inl (cI, 4, .inl ss)), ((q 26), .inl (cI, 4, .inl sa)), ((q 27), .inl (cI, 240, .inl sh))] [0] rfl rfl (Eq.refl [h6]) rfl 0 rfl rfl rfl _ rfl (Nat.le_of_ble_eq_true rfl) ⟨Nat.zero_le _, Nat.zero_le _⟩ dX6_century_69 ?_
      generalize hu69 : (F_X6_refused (-2 : Int32)) = u69 at hf ⊢
      exact z_iretW C hr hlk (by rw [hf]) (by rw [hf]) dX6_century_72
    · rw [if_neg c22] at hf
      have b22 := c22
      rw [← hu19] at c22
      refine z_iload C dX6_century_25 4 rfl ?_
      refine z_i2l C dX6_century_27 ?_
      refine z_lconst (v := (0 : Int64)) C dX6_century_28 (by decide) ?_
      refine z_ldc2 C m_X6_century_2 dX6_century_29 ?_
      refine z_cSR (As := [.long n.toInt64, .long (0 : Int64), .long (20 : Int64)]) C (c_X6_in l D cI cO n.toInt64 (0 : Int64) (20 : Int64)) (va_cwS 3 C.2.2.2.2.1 gX6_century_X6_in rfl rfl rfl hdS_X6_in ⟨Nat.le_of_ble_eq_true rfl, Nat.le_of_ble_eq_true rfl⟩) [] rfl rfl rfl _ rfl (Nat.le_of_ble_eq_true rfl) ⟨Nat.zero_le _, Nat.zero_le _⟩ dX6_century_32 ?_
      generalize hu32 : (F_X6_in n.toInt64 (0 : Int64) (20 : Int64)) = u32 at hf ⊢
      refine z_if_eq (tgt := 66) C dX6_century_35 (by decide) (fun c35 => ?_) (fun c35 => ?_)
      · rw [if_pos c35] at hf
        have b35 := c35
        rw [← hu32] at c35
        refine z_aload_n C dX6_century_66 rfl 0 rfl ?_
        refine z_bipush (v := (-2 : Int32)) C dX6_century_67 (by decide) ?_
        refine z_cVW (As := [.int (-2 : Int32)]) C (c_X6_refused l D cI cO h6 q fl pn sl dr yn ra rp rs rd ry pk yk rg tc (-2 : Int32)) (cwV 1 C.2.2.2.2.1 gX6_century_X6_refused rfl rfl rfl hdV_X6_refused ⟨Nat.le_of_ble_eq_true rfl, Nat.le_of_ble_eq_true rfl⟩) [(h6, .inr (6, fM ((F_X6_refused (-2 : Int32)).2) pn sl dr yn ra rp rs rd ry pk yk rg tc q)), ((q 5), .inl (cI, 9, .inl ko)), ((q 6), .inl (cI, 9, .inl bo)), ((q 7), .inl (cI, 9, .inl yo)), ((q 18), .inl (cI, 9, .inl kk)), ((q 19), .inl (cI, 9, .inl bk)), ((q 20), .inl (cI, 9, .inl tk)), ((q 25), .inl (cI, 4, .inl ss)), ((q 26), .inl (cI, 4, .inl sa)), ((q 27), .inl (cI, 240, .inl sh))] [0] rfl rfl (Eq.refl [h6]) rfl 0 rfl rfl rfl _ rfl (Nat.le_of_ble_eq_true rfl) ⟨Nat.zero_le _, Nat.zero_le _⟩ dX6_century_69 ?_
        generalize hu69 : (F_X6_refused (-2 : Int32)) = u69 at hf ⊢
        exact z_iretW C hr hlk (by rw [hf]) (by rw [hf]) dX6_century_72
      · rw [if_neg c35] at hf
        have b35 := c35
        rw [← hu32] at c35
        refine z_iload C dX6_century_38 5 rfl ?_
        refine z_i2l C dX6_century_40 ?_
        refine z_lconst (v := (0 : Int64)) C dX6_century_41 (by decide) ?_
        refine z_ldc2 C m_X6_century_3 dX6_century_42 ?_
        refine z_cSR (As := [.long w.toInt64, .long (0 : Int64), .long (4 : Int64)]) C (c_X6_in l D cI cO w.toInt64 (0 : Int64) (4 : Int64)) (va_cwS 3 C.2.2.2.2.1 gX6_century_X6_in rfl rfl rfl hdS_X6_in ⟨Nat.le_of_ble_eq_true rfl, Nat.le_of_ble_eq_true rfl⟩) [] rfl rfl rfl _ rfl (Nat.le_of_ble_eq_true rfl) ⟨Nat.zero_le _, Nat.zero_le _⟩ dX6_century_45 ?_
        generalize hu45 : (F_X6_in w.toInt64 (0 : Int64) (4 : Int64)) = u45 at hf ⊢
        have J73 : F_X6_century fl pn sl dr yn pk yk ko bo yo kk bk tk ss sa sh k la i n w = F_X6_century_j73 fl pn sl dr yn pk yk ko bo yo kk bk tk ss sa sh k la i n w → zG p l e ({ frames := 4, cells := 0, slots := 0, locals := 92 } : Room) s m args below meth c D (zA [(h6, .inr (6, fM fl pn sl dr yn ra rp rs rd ry pk yk rg tc q)), ((q 5), .inl (cI, 9, .inl ko)), ((q 6), .inl (cI, 9, .inl bo)), ((q 7), .inl (cI, 9, .inl yo)), ((q 18), .inl (cI, 9, .inl kk)), ((q 19), .inl (cI, 9, .inl bk)), ((q 20), .inl (cI, 9, .inl tk)), ((q 25), .inl (cI, 4, .inl ss)), ((q 26), .inl (cI, 4, .inl sa)), ((q 27), .inl (cI, 240, .inl sh))]) (zXw (zA [(h6, .inr (6, fM fl pn sl dr yn ra rp rs rd ry pk yk rg tc q)), ((q 5), .inl (cI, 9, .inl ko)), ((q 6), .inl (cI, 9, .inl bo)), ((q 7), .inl (cI, 9, .inl yo)), ((q 18), .inl (cI, 9, .inl kk)), ((q 19), .inl (cI, 9, .inl bk)), ((q 20), .inl (cI, 9, .inl tk)), ((q 25), .inl (cI, 4, .inl ss)), ((q 26), .inl (cI, 4, .inl sa)), ((q 27), .inl (cI, 240, .inl sh))]) s.heap) 8 0 0 (MQ below (zQw D [(h6, .inr (6, fM ((F_X6_century fl pn sl dr yn pk yk ko bo yo kk bk tk ss sa sh k la i n w).2.1) ((F_X6_century fl pn sl dr yn pk yk ko bo yo kk bk tk ss sa sh k la i n w).2.2.1) sl dr ((F_X6_century fl pn sl dr yn pk yk ko bo yo kk bk tk ss sa sh k la i n w).2.2.2.2.2.1) ra rp rs rd ry ((F_X6_century fl pn sl dr yn pk yk ko bo yo kk bk tk ss sa sh k la i n w).2.2.2.1) ((F_X6_century fl pn sl dr yn pk yk ko bo yo kk bk tk ss sa sh k la i n w).2.2.2.2.1) rg tc q)), ((q 5), .inl (cI, 9, .inl ((F_X6_century fl pn sl dr yn pk yk ko bo yo kk bk tk ss sa sh k la i n w).2.2.2.2.2.2.1))), ((q 6), .inl (cI, 9, .inl ((F_X6_century fl pn sl dr yn pk yk ko bo yo kk bk tk ss sa sh k la i n w).2.2.2.2.2.2.2.1))), ((q 7), .inl (cI, 9, .inl ((F_X6_century fl pn sl dr yn pk yk ko bo yo kk bk tk ss sa sh k la i n w).2.2.2.2.2.2.2.2.1))), ((q 18), .inl (cI, 9, .inl ((F_X6_century fl pn sl dr yn pk yk ko bo yo kk bk tk ss sa sh k la i n w).2.2.2.2.2.2.2.2.2.1))), ((q 19), .inl (cI, 9, .inl ((F_X6_century fl pn sl dr yn pk yk ko bo yo kk bk tk ss sa sh k la i n w).2.2.2.2.2.2.2.2.2.2.1))), ((q 20), .inl (cI, 9, .inl ((F_X6_century fl pn sl dr yn pk yk ko bo yo kk bk tk ss sa sh k la i n w).2.2.2.2.2.2.2.2.2.2.2))), ((q 25), .inl (cI, 4, .inl ss)), ((q 26), .inl (cI, 4, .inl sa)), ((q 27), .inl (cI, 240, .inl sh))] (zA [(h6, .inr (6, fM fl pn sl dr yn ra rp rs rd ry pk yk rg tc q)), ((q 5), .inl (cI, 9, .inl ko)), ((q 6), .inl (cI, 9, .inl bo)), ((q 7), .inl (cI, 9, .inl yo)), ((q 18), .inl (cI, 9, .inl kk)), ((q 19), .inl (cI, 9, .inl bk)), ((q 20), .inl (cI, 9, .inl tk)), ((q 25), .inl (cI, 4, .inl ss)), ((q 26), .inl (cI, 4, .inl sa)), ((q 27), .inl (cI, 240, .inl sh))]) (some (.int ((F_X6_century fl pn sl dr yn pk yk ko bo yo kk bk tk ss sa sh k la i n w).1)))) args s 0 0 (zA [(h6, .inr (6, fM fl pn sl dr yn ra rp rs rd ry pk yk rg tc q)), ((q 5), .inl (cI, 9, .inl ko)), ((q 6), .inl (cI, 9, .inl bo)), ((q 7), .inl (cI, 9, .inl yo)), ((q 18), .inl (cI, 9, .inl kk)), ((q 19), .inl (cI, 9, .inl bk)), ((q 20), .inl (cI, 9, .inl tk)), ((q 25), .inl (cI, 4, .inl ss)), ((q 26), .inl (cI, 4, .inl sa)), ((q 27), .inl (cI, 240, .inl sh))])) 73 [(0, .ref h6), (1, .int k), (2, .int la), (3, .int i), (4, .int n), (5, .int w)] [] [(h6, .inr (6, fM fl pn sl dr yn ra rp rs rd ry pk yk rg tc q)), ((q 5), .inl (cI, 9, .inl ko)), ((q 6), .inl (cI, 9, .inl bo)), ((q 7), .inl (cI, 9, .inl yo)), ((q 18), .inl (cI, 9, .inl kk)), ((q 19), .inl (cI, 9, .inl bk)), ((q 20), .inl (cI, 9, .inl tk)), ((q 25), .inl (cI, 4, .inl ss)), ((q 26), .inl (cI, 4, .inl sa)), ((q 27), .inl (cI, 240, .inl sh))] := by
          intro hf
          rw [F_X6_century_j73] at hf
          skip
          refine z_aload_n C dX6_century_73 rfl 0 rfl ?_
          refine z_get (T := TX6) (v := .int pn) C i_X6_century_6 0 rfl rfl 1 (by decide) m_X6_century_6 rfl rfl dX6_century_74 ?_
          refine z_if_ne (tgt := 87) C dX6_century_77 (by decide) (fun c77 => ?_) (fun c77 => ?_)
          · rw [if_neg c77] at hf
            refine z_aload_n C dX6_century_87 rfl 0 rfl ?_
            refine z_iload_n C dX6_century_88 rfl 1 rfl ?_
            refine z_iload_n C dX6_century_89 rfl 2 rfl ?_
            refine z_iload_n C dX6_century_90 rfl 3 rfl ?_
            refine z_ldc2 C m_X6_century_1 dX6_century_91 ?_
            refine z_iload C dX6_century_94 4 rfl ?_
            refine z_i2l C dX6_century_96 ?_
            refine z_lmul C dX6_century_97 ?_
            refine z_cVW (As := [.int k, .int la, .int i, .long ((2 : Int64) * n.toInt64)]) C (c_X6_cellsBarred l D cI cO h6 q fl pn sl dr yn ra rp rs rd ry pk yk rg tc ss sa k la i ((2 : Int64) * n.toInt64) (by subst hu45 hu32 hu19 hu1; exact (noSheet_k c4))) (cwV 4 C.2.2.2.2.1 gX6_century_X6_cellsBarred rfl rfl rfl hdV_X6_cellsBarred ⟨Nat.le_of_ble_eq_true rfl, Nat.le_of_ble_eq_true rfl⟩) [(h6, .inr (6, fM ((F_X6_cellsBarred fl ss sa k la i ((2 : Int64) * n.toInt64)).2) pn sl dr yn ra rp rs rd ry pk yk rg tc q)), ((q 5), .inl (cI, 9, .inl ko)), ((q 6), .inl (cI, 9, .inl bo)), ((q 7), .inl (cI, 9, .inl yo)), ((q 18), .inl (cI, 9, .inl kk)), ((q 19), .inl (cI, 9, .inl bk)), ((q 20), .inl (cI, 9, .inl tk)), ((q 25), .inl (cI, 4, .inl ss)), ((q 26), .inl (cI, 4, .inl sa)), ((q 27), .inl (cI, 240, .inl sh))] [0, 7, 8] rfl rfl (Eq.refl [h6, (q 25), (q 26)]) rfl 0 rfl rfl rfl _ rfl (Nat.le_of_ble_eq_true rfl) ⟨Nat.zero_le _, Nat.zero_le _⟩ dX6_century_98 ?_
            generalize hu98 : (F_X6_cellsBarred fl ss sa k la i ((2 : Int64) * n.toInt64)) = u98 at hf ⊢
            refine z_istore C [(0, .ref h6), (1, .int k), (2, .int la), (3, .int i), (4, .int n), (5, .int w), (6, .int u98.1)] dX6_century_101 (by decide) [1, 2, 3, 4, 5, 6, 0] rfl ?_
            refine z_iload C dX6_century_103 6 rfl ?_
            refine z_if_ge (tgt := 111) C dX6_century_105 (by decide) (fun c105 => ?_) (fun c105 => ?_)
            · rw [if_pos c105] at hf
              have b105 := c105
              rw [← hu98] at c105
              obtain ⟨k0, hk0, hk1⟩ := noSheet_in c4
              have hbar := barred_in hk1 hk0 c105
              obtain ⟨a0, N0, ha0, hN1, haN⟩ := beyond_in2 (hss k0 hk0) hbar.2
              refine z_iconst (v := (0 : Int32)) C dX6_century_111 (by decide) ?_
              refine z_istore C [(0, .ref h6), (1, .int k), (2, .int la), (3, .int i), (4, .int n), (5, .int w), (6, .int u98.1), (7, .int (0 : Int32))] dX6_century_112 (by decide) [1, 2, 3, 4, 5, 6, 7, 0] rfl ?_
              have X114 : ∀ (x7_114 : Int32), F_X6_century fl pn sl dr yn pk yk ko bo yo kk bk tk ss sa sh k la i n w = (F_X6_century_k114 pn sl dr yn ko bo yo kk bk tk sh k i n w) x7_114 → zG p l e ({ frames := 4, cells := 0, slots := 0, locals := 92 } : Room) s m args below meth c D (zA [(h6, .inr (6, fM fl pn sl dr yn ra rp rs rd ry pk yk rg tc q)), ((q 5), .inl (cI, 9, .inl ko)), ((q 6), .inl (cI, 9, .inl bo)), ((q 7), .inl (cI, 9, .inl yo)), ((q 18), .inl (cI, 9, .inl kk)), ((q 19), .inl (cI, 9, .inl bk)), ((q 20), .inl (cI, 9, .inl tk)), ((q 25), .inl (cI, 4, .inl ss)), ((q 26), .inl (cI, 4, .inl sa)), ((q 27), .inl (cI, 240, .inl sh))]) (zXw (zA [(h6, .inr (6, fM fl pn sl dr yn ra rp rs rd ry pk yk rg tc q)), ((q 5), .inl (cI, 9, .inl ko)), ((q 6), .inl (cI, 9, .inl bo)), ((q 7), .inl (cI, 9, .inl yo)), ((q 18), .inl (cI, 9, .inl kk)), ((q 19), .inl (cI, 9, .inl bk)), ((q 20), .inl (cI, 9, .inl tk)), ((q 25), .inl (cI, 4, .inl ss)), ((q 26), .inl (cI, 4, .inl sa)), ((q 27), .inl (cI, 240, .inl sh))]) s.heap) 8 0 0 (MQ below (zQw D [(h6, .inr (6, fM ((F_X6_century fl pn sl dr yn pk yk ko bo yo kk bk tk ss sa sh k la i n w).2.1) ((F_X6_century fl pn sl dr yn pk yk ko bo yo kk bk tk ss sa sh k la i n w).2.2.1) sl dr ((F_X6_century fl pn sl dr yn pk yk ko bo yo kk bk tk ss sa sh k la i n w).2.2.2.2.2.1) ra rp rs rd ry ((F_X6_century fl pn sl dr yn pk yk ko bo yo kk bk tk ss sa sh k la i n w).2.2.2.1) ((F_X6_century fl pn sl dr yn pk yk ko bo yo kk bk tk ss sa sh k la i n w).2.2.2.2.1) rg tc q)), ((q 5), .inl (cI, 9, .inl ((F_X6_century fl pn sl dr yn pk yk ko bo yo kk bk tk ss sa sh k la i n w).2.2.2.2.2.2.1))), ((q 6), .inl (cI, 9, .inl ((F_X6_century fl pn sl dr yn pk yk ko bo yo kk bk tk ss sa sh k la i n w).2.2.2.2.2.2.2.1))), ((q 7), .inl (cI, 9, .inl ((F_X6_century fl pn sl dr yn pk yk ko bo yo kk bk tk ss sa sh k la i n w).2.2.2.2.2.2.2.2.1))), ((q 18), .inl (cI, 9, .inl ((F_X6_century fl pn sl dr yn pk yk ko bo yo kk bk tk ss sa sh k la i n w).2.2.2.2.2.2.2.2.2.1))), ((q 19), .inl (cI, 9, .inl ((F_X6_century fl pn sl dr yn pk yk ko bo yo kk bk tk ss sa sh k la i n w).2.2.2.2.2.2.2.2.2.2.1))), ((q 20), .inl (cI, 9, .inl ((F_X6_century fl pn sl dr yn pk yk ko bo yo kk bk tk ss sa sh k la i n w).2.2.2.2.2.2.2.2.2.2.2))), ((q 25), .inl (cI, 4, .inl ss)), ((q 26), .inl (cI, 4, .inl sa)), ((q 27), .inl (cI, 240, .inl sh))] (zA [(h6, .inr (6, fM fl pn sl dr yn ra rp rs rd ry pk yk rg tc q)), ((q 5), .inl (cI, 9, .inl ko)), ((q 6), .inl (cI, 9, .inl bo)), ((q 7), .inl (cI, 9, .inl yo)), ((q 18), .inl (cI, 9, .inl kk)), ((q 19), .inl (cI, 9, .inl bk)), ((q 20), .inl (cI, 9, .inl tk)), ((q 25), .inl (cI, 4, .inl ss)), ((q 26), .inl (cI, 4, .inl sa)), ((q 27), .inl (cI, 240, .inl sh))]) (some (.int ((F_X6_century fl pn sl dr yn pk yk ko bo yo kk bk tk ss sa sh k la i n w).1)))) args s 0 0 (zA [(h6, .inr (6, fM fl pn sl dr yn ra rp rs rd ry pk yk rg tc q)), ((q 5), .inl (cI, 9, .inl ko)), ((q 6), .inl (cI, 9, .inl bo)), ((q 7), .inl (cI, 9, .inl yo)), ((q 18), .inl (cI, 9, .inl kk)), ((q 19), .inl (cI, 9, .inl bk)), ((q 20), .inl (cI, 9, .inl tk)), ((q 25), .inl (cI, 4, .inl ss)), ((q 26), .inl (cI, 4, .inl sa)), ((q 27), .inl (cI, 240, .inl sh))])) 174 [(0, .ref h6), (1, .int k), (2, .int la), (3, .int i), (4, .int n), (5, .int w), (6, .int u98.1), (7, .int x7_114)] [] [(h6, .inr (6, fM u98.2 pn sl dr yn ra rp rs rd ry pk yk rg tc q)), ((q 5), .inl (cI, 9, .inl ko)), ((q 6), .inl (cI, 9, .inl bo)), ((q 7), .inl (cI, 9, .inl yo)), ((q 18), .inl (cI, 9, .inl kk)), ((q 19), .inl (cI, 9, .inl bk)), ((q 20), .inl (cI, 9, .inl tk)), ((q 25), .inl (cI, 4, .inl ss)), ((q 26), .inl (cI, 4, .inl sa)), ((q 27), .inl (cI, 240, .inl sh))] := by
                intro x7_114 hf
                rw [F_X6_century_k114] at hf
                skip
                refine z_aload_n C dX6_century_174 rfl 0 rfl ?_
                refine z_cVW (As := []) C (c_X6_keepAll l D cI cO h6 q u98.2 pn sl dr yn ra rp rs rd ry pk yk rg tc ko bo yo kk bk tk) (cwV 0 C.2.2.2.2.1 gX6_century_X6_keepAll rfl rfl rfl hdV_X6_keepAll ⟨Nat.le_of_ble_eq_true rfl, Nat.le_of_ble_eq_true rfl⟩) [(h6, .inr (6, fM u98.2 pn sl dr yn ra rp rs rd ry ((F_X6_keepAll pn yn ko bo yo kk bk tk).1) ((F_X6_keepAll pn yn ko bo yo kk bk tk).2.1) rg tc q)), ((q 5), .inl (cI, 9, .inl ko)), ((q 6), .inl (cI, 9, .inl bo)), ((q 7), .inl (cI, 9, .inl yo)), ((q 18), .inl (cI, 9, .inl ((F_X6_keepAll pn yn ko bo yo kk bk tk).2.2.1))), ((q 19), .inl (cI, 9, .inl ((F_X6_keepAll pn yn ko bo yo kk bk tk).2.2.2.1))), ((q 20), .inl (cI, 9, .inl ((F_X6_keepAll pn yn ko bo yo kk bk tk).2.2.2.2))), ((q 25), .inl (cI, 4, .inl ss)), ((q 26), .inl (cI, 4, .inl sa)), ((q 27), .inl (cI, 240, .inl sh))] [0, 1, 2, 3, 4, 5, 6] rfl rfl (Eq.refl [h6, (q 5), (q 6), (q 7), (q 18), (q 19), (q 20)]) rfl 0 rfl rfl rfl _ rfl (Nat.le_of_ble_eq_true rfl) ⟨Nat.zero_le _, Nat.zero_le _⟩ dX6_century_175 ?_
                generalize hu175 : (F_X6_keepAll pn yn ko bo yo kk bk tk) = u175 at hf ⊢
                refine z_aload_n C dX6_century_178 rfl 0 rfl ?_
                refine z_bipush (v := (60 : Int32)) C dX6_century_179 (by decide) ?_
                refine z_iload_n C dX6_century_181 rfl 1 rfl ?_
                refine z_imul C dX6_century_182 ?_
                refine z_iload_n C dX6_century_183 rfl 3 rfl ?_
                refine z_iadd C dX6_century_184 ?_
                refine z_iload C dX6_century_185 4 rfl ?_
                refine z_iload C dX6_century_187 5 rfl ?_
                refine z_cVW (As := [.int (((60 : Int32) * k) + i), .int n, .int w]) C (c_X6_centuryBy l D cI cO h6 q u98.2 pn sl dr yn ra rp rs rd ry u175.1 u175.2.1 rg tc ko bo yo sh (((60 : Int32) * k) + i) n w np (60 * k0 + a0) N0 (by subst hu175 hu98 hu45 hu32 hu19 hu1; exact hpn) (by subst hu175 hu98 hu45 hu32 hu19 hu1; exact hnp) (by subst hu175 hu98 hu45 hu32 hu19 hu1; exact (z_pos hpn c77)) (by subst hu175 hu98 hu45 hu32 hu19 hu1; exact (sheet_e hk1 ha0)) (by subst hu175 hu98 hu45 hu32 hu19 hu1; exact hN1) (by omega) (by omega)) (cwV 3 C.2.2.2.2.1 gX6_century_X6_centuryBy rfl rfl rfl hdV_X6_centuryBy ⟨Nat.le_of_ble_eq_true rfl, Nat.le_of_ble_eq_true rfl⟩) [(h6, .inr (6, fM u98.2 ((F_X6_centuryBy pn sl dr yn ko bo yo sh (((60 : Int32) * k) + i) n w).2.1) sl dr ((F_X6_centuryBy pn sl dr yn ko bo yo sh (((60 : Int32) * k) + i) n w).2.2.1) ra rp rs rd ry u175.1 u175.2.1 rg tc q)), ((q 5), .inl (cI, 9, .inl ((F_X6_centuryBy pn sl dr yn ko bo yo sh (((60 : Int32) * k) + i) n w).2.2.2.1))), ((q 6), .inl (cI, 9, .inl ((F_X6_centuryBy pn sl dr yn ko bo yo sh (((60 : Int32) * k) + i) n w).2.2.2.2.1))), ((q 7), .inl (cI, 9, .inl ((F_X6_centuryBy pn sl dr yn ko bo yo sh (((60 : Int32) * k) + i) n w).2.2.2.2.2))), ((q 18), .inl (cI, 9, .inl u175.2.2.1)), ((q 19), .inl (cI, 9, .inl u175.2.2.2.1)), ((q 20), .inl (cI, 9, .inl u175.2.2.2.2)), ((q 25), .inl (cI, 4, .inl ss)), ((q 26), .inl (cI, 4, .inl sa)), ((q 27), .inl (cI, 240, .inl sh))] [0, 1, 2, 3, 9] rfl rfl (Eq.refl [h6, (q 5), (q 6), (q 7), (q 27)]) rfl 0 rfl rfl rfl _ rfl (Nat.le_of_ble_eq_true rfl) ⟨Nat.zero_le _, Nat.zero_le _⟩ dX6_century_189 ?_
                generalize hu189 : (F_X6_centuryBy pn sl dr yn ko bo yo sh (((60 : Int32) * k) + i) n w) = u189 at hf ⊢
                refine z_istore C [(0, .ref h6), (1, .int k), (2, .int la), (3, .int i), (4, .int n), (5, .int w), (6, .int u98.1), (7, .int u189.1)] dX6_century_192 (by decide) [1, 2, 3, 4, 5, 6, 7, 0] rfl ?_
                refine z_aload_n C dX6_century_194 rfl 0 rfl ?_
                refine z_cVW (As := []) C (c_X6_bringBack l D cI cO h6 q u98.2 u189.2.1 sl dr u189.2.2.1 ra rp rs rd ry u175.1 u175.2.1 rg tc u189.2.2.2.1 u189.2.2.2.2.1 u189.2.2.2.2.2 u175.2.2.1 u175.2.2.2.1 u175.2.2.2.2) (cwV 0 C.2.2.2.2.1 gX6_century_X6_bringBack rfl rfl rfl hdV_X6_bringBack ⟨Nat.le_of_ble_eq_true rfl, Nat.le_of_ble_eq_true rfl⟩) [(h6, .inr (6, fM u98.2 ((F_X6_bringBack u175.1 u175.2.1 u189.2.2.2.1 u189.2.2.2.2.1 u189.2.2.2.2.2 u175.2.2.1 u175.2.2.2.1 u175.2.2.2.2).1) sl dr ((F_X6_bringBack u175.1 u175.2.1 u189.2.2.2.1 u189.2.2.2.2.1 u189.2.2.2.2.2 u175.2.2.1 u175.2.2.2.1 u175.2.2.2.2).2.1) ra rp rs rd ry u175.1 u175.2.1 rg tc q)), ((q 5), .inl (cI, 9, .inl ((F_X6_bringBack u175.1 u175.2.1 u189.2.2.2.1 u189.2.2.2.2.1 u189.2.2.2.2.2 u175.2.2.1 u175.2.2.2.1 u175.2.2.2.2).2.2.1))), ((q 6), .inl (cI, 9, .inl ((F_X6_bringBack u175.1 u175.2.1 u189.2.2.2.1 u189.2.2.2.2.1 u189.2.2.2.2.2 u175.2.2.1 u175.2.2.2.1 u175.2.2.2.2).2.2.2.1))), ((q 7), .inl (cI, 9, .inl ((F_X6_bringBack u175.1 u175.2.1 u189.2.2.2.1 u189.2.2.2.2.1 u189.2.2.2.2.2 u175.2.2.1 u175.2.2.2.1 u175.2.2.2.2).2.2.2.2))), ((q 18), .inl (cI, 9, .inl u175.2.2.1)), ((q 19), .inl (cI, 9, .inl u175.2.2.2.1)), ((q 20), .inl (cI, 9, .inl u175.2.2.2.2)), ((q 25), .inl (cI, 4, .inl ss)), ((q 26), .inl (cI, 4, .inl sa)), ((q 27), .inl (cI, 240, .inl sh))] [0, 1, 2, 3, 4, 5, 6] rfl rfl (Eq.refl [h6, (q 5), (q 6), (q 7), (q 18), (q 19), (q 20)]) rfl 0 rfl rfl rfl _ rfl (Nat.le_of_ble_eq_true rfl) ⟨Nat.zero_le _, Nat.zero_le _⟩ dX6_century_195 ?_
                generalize hu195 : (F_X6_bringBack u175.1 u175.2.1 u189.2.2.2.1 u189.2.2.2.2.1 u189.2.2.2.2.2 u175.2.2.1 u175.2.2.2.1 u175.2.2.2.2) = u195 at hf ⊢
                refine z_aload_n C dX6_century_198 rfl 0 rfl ?_
                refine z_iload C dX6_century_199 7 rfl ?_
                refine z_cVW (As := [.int u189.1]) C (c_X6_refused l D cI cO h6 q u98.2 u195.1 sl dr u195.2.1 ra rp rs rd ry u175.1 u175.2.1 rg tc u189.1) (cwV 1 C.2.2.2.2.1 gX6_century_X6_refused rfl rfl rfl hdV_X6_refused ⟨Nat.le_of_ble_eq_true rfl, Nat.le_of_ble_eq_true rfl⟩) [(h6, .inr (6, fM ((F_X6_refused u189.1).2) u195.1 sl dr u195.2.1 ra rp rs rd ry u175.1 u175.2.1 rg tc q)), ((q 5), .inl (cI, 9, .inl u195.2.2.1)), ((q 6), .inl (cI, 9, .inl u195.2.2.2.1)), ((q 7), .inl (cI, 9, .inl u195.2.2.2.2)), ((q 18), .inl (cI, 9, .inl u175.2.2.1)), ((q 19), .inl (cI, 9, .inl u175.2.2.2.1)), ((q 20), .inl (cI, 9, .inl u175.2.2.2.2)), ((q 25), .inl (cI, 4, .inl ss)), ((q 26), .inl (cI, 4, .inl sa)), ((q 27), .inl (cI, 240, .inl sh))] [0] rfl rfl (Eq.refl [h6]) rfl 0 rfl rfl rfl _ rfl (Nat.le_of_ble_eq_true rfl) ⟨Nat.zero_le _, Nat.zero_le _⟩ dX6_century_201 ?_
                generalize hu201 : (F_X6_refused u189.1) = u201 at hf ⊢
                exact z_iretW C hr hlk (by rw [hf]) (by rw [hf]) dX6_century_204
              have L114 : ∀ (d114 : Nat) (j : Nat) (x7_114 : Int32) (e7 : x7_114 = nI j) (hj : j ≤ N0) (hd : N0 < j + d114), F_X6_century fl pn sl dr yn pk yk ko bo yo kk bk tk ss sa sh k la i n w = F_X6_century_l114 pn yn pk yk ko bo yo kk bk tk sh k i n (F_X6_century_k114 pn sl dr yn ko bo yo kk bk tk sh k i n w) d114 x7_114 → zG p l e ({ frames := 4, cells := 0, slots := 0, locals := 92 } : Room) s m args below meth c D (zA [(h6, .inr (6, fM fl pn sl dr yn ra rp rs rd ry pk yk rg tc q)), ((q 5), .inl (cI, 9, .inl ko)), ((q 6), .inl (cI, 9, .inl bo)), ((q 7), .inl (cI, 9, .inl yo)), ((q 18), .inl (cI, 9, .inl kk)), ((q 19), .inl (cI, 9, .inl bk)), ((q 20), .inl (cI, 9, .inl tk)), ((q 25), .inl (cI, 4, .inl ss)), ((q 26), .inl (cI, 4, .inl sa)), ((q 27), .inl (cI, 240, .inl sh))]) (zXw (zA [(h6, .inr (6, fM fl pn sl dr yn ra rp rs rd ry pk yk rg tc q)), ((q 5), .inl (cI, 9, .inl ko)), ((q 6), .inl (cI, 9, .inl bo)), ((q 7), .inl (cI, 9, .inl yo)), ((q 18), .inl (cI, 9, .inl kk)), ((q 19), .inl (cI, 9, .inl bk)), ((q 20), .inl (cI, 9, .inl tk)), ((q 25), .inl (cI, 4, .inl ss)), ((q 26), .inl (cI, 4, .inl sa)), ((q 27), .inl (cI, 240, .inl sh))]) s.heap) 8 0 0 (MQ below (zQw D [(h6, .inr (6, fM ((F_X6_century fl pn sl dr yn pk yk ko bo yo kk bk tk ss sa sh k la i n w).2.1) ((F_X6_century fl pn sl dr yn pk yk ko bo yo kk bk tk ss sa sh k la i n w).2.2.1) sl dr ((F_X6_century fl pn sl dr yn pk yk ko bo yo kk bk tk ss sa sh k la i n w).2.2.2.2.2.1) ra rp rs rd ry ((F_X6_century fl pn sl dr yn pk yk ko bo yo kk bk tk ss sa sh k la i n w).2.2.2.1) ((F_X6_century fl pn sl dr yn pk yk ko bo yo kk bk tk ss sa sh k la i n w).2.2.2.2.1) rg tc q)), ((q 5), .inl (cI, 9, .inl ((F_X6_century fl pn sl dr yn pk yk ko bo yo kk bk tk ss sa sh k la i n w).2.2.2.2.2.2.1))), ((q 6), .inl (cI, 9, .inl ((F_X6_century fl pn sl dr yn pk yk ko bo yo kk bk tk ss sa sh k la i n w).2.2.2.2.2.2.2.1))), ((q 7), .inl (cI, 9, .inl ((F_X6_century fl pn sl dr yn pk yk ko bo yo kk bk tk ss sa sh k la i n w).2.2.2.2.2.2.2.2.1))), ((q 18), .inl (cI, 9, .inl ((F_X6_century fl pn sl dr yn pk yk ko bo yo kk bk tk ss sa sh k la i n w).2.2.2.2.2.2.2.2.2.1))), ((q 19), .inl (cI, 9, .inl ((F_X6_century fl pn sl dr yn pk yk ko bo yo kk bk tk ss sa sh k la i n w).2.2.2.2.2.2.2.2.2.2.1))), ((q 20), .inl (cI, 9, .inl ((F_X6_century fl pn sl dr yn pk yk ko bo yo kk bk tk ss sa sh k la i n w).2.2.2.2.2.2.2.2.2.2.2))), ((q 25), .inl (cI, 4, .inl ss)), ((q 26), .inl (cI, 4, .inl sa)), ((q 27), .inl (cI, 240, .inl sh))] (zA [(h6, .inr (6, fM fl pn sl dr yn ra rp rs rd ry pk yk rg tc q)), ((q 5), .inl (cI, 9, .inl ko)), ((q 6), .inl (cI, 9, .inl bo)), ((q 7), .inl (cI, 9, .inl yo)), ((q 18), .inl (cI, 9, .inl kk)), ((q 19), .inl (cI, 9, .inl bk)), ((q 20), .inl (cI, 9, .inl tk)), ((q 25), .inl (cI, 4, .inl ss)), ((q 26), .inl (cI, 4, .inl sa)), ((q 27), .inl (cI, 240, .inl sh))]) (some (.int ((F_X6_century fl pn sl dr yn pk yk ko bo yo kk bk tk ss sa sh k la i n w).1)))) args s 0 0 (zA [(h6, .inr (6, fM fl pn sl dr yn ra rp rs rd ry pk yk rg tc q)), ((q 5), .inl (cI, 9, .inl ko)), ((q 6), .inl (cI, 9, .inl bo)), ((q 7), .inl (cI, 9, .inl yo)), ((q 18), .inl (cI, 9, .inl kk)), ((q 19), .inl (cI, 9, .inl bk)), ((q 20), .inl (cI, 9, .inl tk)), ((q 25), .inl (cI, 4, .inl ss)), ((q 26), .inl (cI, 4, .inl sa)), ((q 27), .inl (cI, 240, .inl sh))])) 114 [(0, .ref h6), (1, .int k), (2, .int la), (3, .int i), (4, .int n), (5, .int w), (6, .int u98.1), (7, .int x7_114)] [] [(h6, .inr (6, fM u98.2 pn sl dr yn ra rp rs rd ry pk yk rg tc q)), ((q 5), .inl (cI, 9, .inl ko)), ((q 6), .inl (cI, 9, .inl bo)), ((q 7), .inl (cI, 9, .inl yo)), ((q 18), .inl (cI, 9, .inl kk)), ((q 19), .inl (cI, 9, .inl bk)), ((q 20), .inl (cI, 9, .inl tk)), ((q 25), .inl (cI, 4, .inl ss)), ((q 26), .inl (cI, 4, .inl sa)), ((q 27), .inl (cI, 240, .inl sh))] := by
                intro d114
                induction d114 with
                | zero =>
                  intro j x7_114 e7 hj hd hf
                  exfalso; omega
                | succ d114 ih114 =>
                  intro j x7_114 e7 hj hd hf
                  rw [F_X6_century_l114] at hf
                  skip
                  refine z_iload C dX6_century_114 7 rfl ?_
                  refine z_iload C dX6_century_116 4 rfl ?_
                  refine z_icmp_ge (tgt := 174) C dX6_century_118 (by decide) (fun c118 => ?_) (fun c118 => ?_)
                  · rw [if_pos c118] at hf
                    exact X114 x7_114  hf
                  · rw [if_neg c118] at hf
                    refine z_aload_n C dX6_century_121 rfl 0 rfl ?_
                    refine z_get (T := TX6) (v := .ref (q 27)) C i_X6_century_6 0 rfl rfl 27 (by decide) m_X6_century_7 rfl rfl dX6_century_122 ?_
                    refine z_bipush (v := (60 : Int32)) C dX6_century_125 (by decide) ?_
                    refine z_iload_n C dX6_century_127 rfl 1 rfl ?_
                    refine z_imul C dX6_century_128 ?_
                    refine z_iload_n C dX6_century_129 rfl 3 rfl ?_
                    refine z_iadd C dX6_century_130 ?_
                    refine z_iconst (v := (2 : Int32)) C dX6_century_131 (by decide) ?_
                    refine z_iload C dX6_century_132 7 rfl ?_
                    refine z_imul C dX6_century_134 ?_
                    refine z_iadd C dX6_century_135 ?_
                    refine z_ald C 9 rfl (by subst hu98 hu45 hu32 hu19 hu1; exact (two_ix (sheet_e hk1 ha0) e7 (by have := z_jlt e7 (by omega) (z_tiN hN1 (by omega)) c118; omega)).1) dX6_century_136 ?_
                    refine z_aload_n C dX6_century_137 rfl 0 rfl ?_
                    refine z_get (T := TX6) (v := .ref (q 27)) C i_X6_century_6 0 rfl rfl 27 (by decide) m_X6_century_7 rfl rfl dX6_century_138 ?_
                    refine z_bipush (v := (60 : Int32)) C dX6_century_141 (by decide) ?_
                    refine z_iload_n C dX6_century_143 rfl 1 rfl ?_
                    refine z_imul C dX6_century_144 ?_
                    refine z_iload_n C dX6_century_145 rfl 3 rfl ?_
                    refine z_iadd C dX6_century_146 ?_
                    refine z_iconst (v := (2 : Int32)) C dX6_century_147 (by decide) ?_
                    refine z_iload C dX6_century_148 7 rfl ?_
                    refine z_imul C dX6_century_150 ?_
                    refine z_iadd C dX6_century_151 ?_
                    refine z_iconst (v := (1 : Int32)) C dX6_century_152 (by decide) ?_
                    refine z_iadd C dX6_century_153 ?_
                    refine z_ald C 9 rfl (by subst hu98 hu45 hu32 hu19 hu1; exact (two_ix (sheet_e hk1 ha0) e7 (by have := z_jlt e7 (by omega) (z_tiN hN1 (by omega)) c118; omega)).2) dX6_century_154 ?_
                    refine z_cSR (As := [.int (sh ((((60 : Int32) * k) + i) + ((2 : Int32) * x7_114)).toNatClampNeg), .int (sh (((((60 : Int32) * k) + i) + ((2 : Int32) * x7_114)) + (1 : Int32)).toNatClampNeg)]) C (c_X6_isPair l D cI cO (sh ((((60 : Int32) * k) + i) + ((2 : Int32) * x7_114)).toNatClampNeg) (sh (((((60 : Int32) * k) + i) + ((2 : Int32) * x7_114)) + (1 : Int32)).toNatClampNeg)) (va_cwS 2 C.2.2.2.2.1 gX6_century_X6_isPair rfl rfl rfl hdS_X6_isPair ⟨Nat.le_of_ble_eq_true rfl, Nat.le_of_ble_eq_true rfl⟩) [] rfl rfl rfl _ rfl (Nat.le_of_ble_eq_true rfl) ⟨Nat.zero_le _, Nat.zero_le _⟩ dX6_century_155 ?_
                    generalize hu155 : (F_X6_isPair (sh ((((60 : Int32) * k) + i) + ((2 : Int32) * x7_114)).toNatClampNeg) (sh (((((60 : Int32) * k) + i) + ((2 : Int32) * x7_114)) + (1 : Int32)).toNatClampNeg)) = u155 at hf ⊢
                    refine z_if_ne (tgt := 168) C dX6_century_158 (by decide) (fun c158 => ?_) (fun c158 => ?_)
                    · rw [if_neg c158] at hf
                      have b158 := c158
                      rw [← hu155] at c158
                      refine z_iinc (v := (x7_114 + (1 : Int32))) C [(0, .ref h6), (1, .int k), (2, .int la), (3, .int i), (4, .int n), (5, .int w), (6, .int u98.1), (7, .int (x7_114 + (1 : Int32)))] dX6_century_168 7 rfl (by rfl) (by decide) [1, 2, 3, 4, 5, 6, 7, 0] rfl ?_
                      refine z_goto (tgt := 114) C dX6_century_171 (by decide) ?_
                      exact ih114 (j + 1) (x7_114 + (1 : Int32)) (by subst hu155 hu98 hu45 hu32 hu19 hu1; exact (by rw [e7]; exact nI_1 j)) (by subst hu155 hu98 hu45 hu32 hu19 hu1; exact (by have := z_jlt e7 (by omega) (z_tiN hN1 (by omega)) c118; omega)) (by omega) hf
                    · rw [if_pos c158] at hf
                      have b158 := c158
                      rw [← hu155] at c158
                      refine z_aload_n C dX6_century_161 rfl 0 rfl ?_
                      refine z_bipush (v := (-2 : Int32)) C dX6_century_162 (by decide) ?_
                      refine z_cVW (As := [.int (-2 : Int32)]) C (c_X6_refused l D cI cO h6 q u98.2 pn sl dr yn ra rp rs rd ry pk yk rg tc (-2 : Int32)) (cwV 1 C.2.2.2.2.1 gX6_century_X6_refused rfl rfl rfl hdV_X6_refused ⟨Nat.le_of_ble_eq_true rfl, Nat.le_of_ble_eq_true rfl⟩) [(h6, .inr (6, fM ((F_X6_refused (-2 : Int32)).2) pn sl dr yn ra rp rs rd ry pk yk rg tc q)), ((q 5), .inl (cI, 9, .inl ko)), ((q 6), .inl (cI, 9, .inl bo)), ((q 7), .inl (cI, 9, .inl yo)), ((q 18), .inl (cI, 9, .inl kk)), ((q 19), .inl (cI, 9, .inl bk)), ((q 20), .inl (cI, 9, .inl tk)), ((q 25), .inl (cI, 4, .inl ss)), ((q 26), .inl (cI, 4, .inl sa)), ((q 27), .inl (cI, 240, .inl sh))] [0] rfl rfl (Eq.refl [h6]) rfl 0 rfl rfl rfl _ rfl (Nat.le_of_ble_eq_true rfl) ⟨Nat.zero_le _, Nat.zero_le _⟩ dX6_century_164 ?_
                      generalize hu164 : (F_X6_refused (-2 : Int32)) = u164 at hf ⊢
                      exact z_iretW C hr hlk (by rw [hf]) (by rw [hf]) dX6_century_167
              exact L114 31 0 (0 : Int32) (by subst hu98 hu45 hu32 hu19 hu1; exact nI_0.symm) (by subst hu98 hu45 hu32 hu19 hu1; exact (Nat.zero_le _)) (by omega) hf
            · rw [if_neg c105] at hf
              have b105 := c105
              rw [← hu98] at c105
              refine z_iload C dX6_century_108 6 rfl ?_
              exact z_iretW C hr hlk (by rw [hf]) (by rw [hf]) dX6_century_110
          · rw [if_pos c77] at hf
            refine z_aload_n C dX6_century_80 rfl 0 rfl ?_
            refine z_bipush (v := (-3 : Int32)) C dX6_century_81 (by decide) ?_
            refine z_cVW (As := [.int (-3 : Int32)]) C (c_X6_refused l D cI cO h6 q fl pn sl dr yn ra rp rs rd ry pk yk rg tc (-3 : Int32)) (cwV 1 C.2.2.2.2.1 gX6_century_X6_refused rfl rfl rfl hdV_X6_refused ⟨Nat.le_of_ble_eq_true rfl, Nat.le_of_ble_eq_true rfl⟩) [(h6, .inr (6, fM ((F_X6_refused (-3 : Int32)).2) pn sl dr yn ra rp rs rd ry pk yk rg tc q)), ((q 5), .inl (cI, 9, .inl ko)), ((q 6), .inl (cI, 9, .inl bo)), ((q 7), .inl (cI, 9, .inl yo)), ((q 18), .inl (cI, 9, .inl kk)), ((q 19), .inl (cI, 9, .inl bk)), ((q 20), .inl (cI, 9, .inl tk)), ((q 25), .inl (cI, 4, .inl ss)), ((q 26), .inl (cI, 4, .inl sa)), ((q 27), .inl (cI, 240, .inl sh))] [0] rfl rfl (Eq.refl [h6]) rfl 0 rfl rfl rfl _ rfl (Nat.le_of_ble_eq_true rfl) ⟨Nat.zero_le _, Nat.zero_le _⟩ dX6_century_83 ?_
            generalize hu83 : (F_X6_refused (-3 : Int32)) = u83 at hf ⊢
            exact z_iretW C hr hlk (by rw [hf]) (by rw [hf]) dX6_century_86
        refine z_if_ne (tgt := 73) C dX6_century_48 (by decide) (fun c48 => ?_) (fun c48 => ?_)
        · rw [if_neg c48] at hf
          have b48 := c48
          rw [← hu45] at c48
          exact J73   hf
        · rw [if_pos c48] at hf
          have b48 := c48
          rw [← hu45] at c48
          refine z_iload C dX6_century_51 5 rfl ?_
          refine z_i2l C dX6_century_53 ?_
          refine z_ldc2 C m_X6_century_4 dX6_century_54 ?_
          refine z_ldc2 C m_X6_century_5 dX6_century_57 ?_
          refine z_cSR (As := [.long w.toInt64, .long (10 : Int64), .long (18 : Int64)]) C (c_X6_in l D cI cO w.toInt64 (10 : Int64) (18 : Int64)) (va_cwS 3 C.2.2.2.2.1 gX6_century_X6_in rfl rfl rfl hdS_X6_in ⟨Nat.le_of_ble_eq_true rfl, Nat.le_of_ble_eq_true rfl⟩) [] rfl rfl rfl _ rfl (Nat.le_of_ble_eq_true rfl) ⟨Nat.zero_le _, Nat.zero_le _⟩ dX6_century_60 ?_
          generalize hu60 : (F_X6_in w.toInt64 (10 : Int64) (18 : Int64)) = u60 at hf ⊢
          refine z_if_ne (tgt := 73) C dX6_century_63 (by decide) (fun c63 => ?_) (fun c63 => ?_)
          · rw [if_neg c63] at hf
            have b63 := c63
            rw [← hu60] at c63
            exact J73   hf
          · rw [if_pos c63] at hf
            have b63 := c63
            rw [← hu60] at c63
            refine z_aload_n C dX6_century_66 rfl 0 rfl ?_
            refine z_bipush (v := (-2 : Int32)) C dX6_century_67 (by decide) ?_
            refine z_cVW (As := [.int (-2 : Int32)]) C (c_X6_refused l D cI cO h6 q fl pn sl dr yn ra rp rs rd ry pk yk rg tc (-2 : Int32)) (cwV 1 C.2.2.2.2.1 gX6_century_X6_refused rfl rfl rfl hdV_X6_refused ⟨Nat.le_of_ble_eq_true rfl, Nat.le_of_ble_eq_true rfl⟩) [(h6, .inr (6, fM ((F_X6_refused (-2 : Int32)).2) pn sl dr yn ra rp rs rd ry pk yk rg tc q)), ((q 5), .inl (cI, 9, .inl ko)), ((q 6), .inl (cI, 9, .inl bo)), ((q 7), .inl (cI, 9, .inl yo)), ((q 18), .inl (cI, 9, .inl kk)), ((q 19), .inl (cI, 9, .inl bk)), ((q 20), .inl (cI, 9, .inl tk)), ((q 25), .inl (cI, 4, .inl ss)), ((q 26), .inl (cI, 4, .inl sa)), ((q 27), .inl (cI, 240, .inl sh))] [0] rfl rfl (Eq.refl [h6]) rfl 0 rfl rfl rfl _ rfl (Nat.le_of_ble_eq_true rfl) ⟨Nat.zero_le _, Nat.zero_le _⟩ dX6_century_69 ?_
            generalize hu69 : (F_X6_refused (-2 : Int32)) = u69 at hf ⊢
            exact z_iretW C hr hlk (by rw [hf]) (by rw [hf]) dX6_century_72
  · rw [if_neg c4] at hf
    have b4 := c4
    rw [← hu1] at c4
    refine z_aload_n C dX6_century_7 rfl 0 rfl ?_
    refine z_iconst (v := (-1 : Int32)) C dX6_century_8 (by decide) ?_
    refine z_cVW (As := [.int (-1 : Int32)]) C (c_X6_refused l D cI cO h6 q fl pn sl dr yn ra rp rs rd ry pk yk rg tc (-1 : Int32)) (cwV 1 C.2.2.2.2.1 gX6_century_X6_refused rfl rfl rfl hdV_X6_refused ⟨Nat.le_of_ble_eq_true rfl, Nat.le_of_ble_eq_true rfl⟩) [(h6, .inr (6, fM ((F_X6_refused (-1 : Int32)).2) pn sl dr yn ra rp rs rd ry pk yk rg tc q)), ((q 5), .inl (cI, 9, .inl ko)), ((q 6), .inl (cI, 9, .inl bo)), ((q 7), .inl (cI, 9, .inl yo)), ((q 18), .inl (cI, 9, .inl kk)), ((q 19), .inl (cI, 9, .inl bk)), ((q 20), .inl (cI, 9, .inl tk)), ((q 25), .inl (cI, 4, .inl ss)), ((q 26), .inl (cI, 4, .inl sa)), ((q 27), .inl (cI, 240, .inl sh))] [0] rfl rfl (Eq.refl [h6]) rfl 0 rfl rfl rfl _ rfl (Nat.le_of_ble_eq_true rfl) ⟨Nat.zero_le _, Nat.zero_le _⟩ dX6_century_9 ?_
    generalize hu9 : (F_X6_refused (-1 : Int32)) = u9 at hf ⊢
    exact z_iretW C hr hlk (by rw [hf]) (by rw [hf]) dX6_century_12
