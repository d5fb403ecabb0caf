section Q17
/-- the readings -/
def rdI (rc : Int32) (rp : Nat → Int32) (pn : Int32) : Prop := ∃ nr np : Nat, nr ≤ 8 ∧ rc = nI nr ∧ np ≤ 9 ∧ pn = nI np ∧ rdOK rp nr np
variable {pn sl dr nw rc : Int32} {kd bd yr rp rw' : Nat → Int32} {Y : Nat}
theorem wellOK.mono {Y' : Nat} (h : wellOK pn sl dr nw kd bd yr Y) (hY : Y ≤ Y') : wellOK pn sl dr nw kd bd yr Y' := by
  obtain ⟨np, a, b, y, h1, h2, h3, h4, h5, h6, h7, h8, h9⟩ := h
  exact ⟨np, a, b, y, h1, h2, h3, h4, h5, h6, by omega, h8, h9⟩
theorem bend_of {v : Int32} (h : ¬ F_X5_isBend v = 0) : ∃ a : Nat, a ≤ 9 ∧ v = nI a := by
  have h2 : ¬ (v.toInt < 0 ∨ 10 - 1 < v.toInt) := fun q => h (by rw [F_X5_isBend]; exact (isX_in v 10 10 (by decide)).mpr q)
  obtain ⟨a, h3, h4⟩ := nI_of (x := v) (fun q => by have := (zl_lt (z := 0) (by decide)).mp q; omega)
  rw [h4, nI_toInt h3] at h2
  exact ⟨a, by omega, h4⟩
theorem kind_of {v : Int32} (h : ¬ F_X5_isKind v = 0) : ∃ a : Nat, a ≤ 2 ∧ v = nI a := by
  have h2 := mt (in_l0 v 0 2 0 2 (by decide) (by decide)).mpr (mt (isKind_in v).mpr h)
  obtain ⟨a, h3, h4⟩ := nI_of (x := v) (fun q => by have := (zl_lt (z := 0) (by decide)).mp q; omega)
  rw [h4, nI_toInt h3] at h2
  exact ⟨a, by omega, h4⟩
theorem ok_bend (h : wellOK pn sl dr nw kd bd yr Y) (k v : Int32) : wellOK pn sl dr nw kd (F_X5_bend pn bd k v).2 yr Y := by
  rw [F_X5_bend]
  by_cases c : F_X4_isPin pn k = 0
  · rw [if_pos c]; exact h
  rw [if_neg c]
  by_cases c2 : F_X5_isBend v = 0
  · rw [if_pos c2]; exact h
  rw [if_neg c2]
  obtain ⟨v0, v1, v2⟩ := bend_of c2
  obtain ⟨np, a, b, y, h1, h2, h3, h4, h5, h6, h7, h8, h9⟩ := h
  refine ⟨np, a, b, y, h1, h2, h3, h4, h5, h6, h7, h8, fun i hi => ⟨(h9 i hi).1, ?_, (h9 i hi).2.2⟩⟩
  show ∃ w, w ≤ 9 ∧ F_X4_setBend pn bd k v i = nI w
  rw [F_X4_setBend, if_neg c]
  by_cases q : i = k.toNatClampNeg
  · rw [q, pk_us]; exact ⟨v0, v1, v2⟩
  · rw [pk_un q]; exact (h9 i hi).2.1
theorem rng_of {x lo hi : Int32} {a b : Nat} (ha : lo.toInt = a) (hb : hi.toInt = b) (h1 : ¬ x < lo) (h2 : x ≤ hi) : ∃ v : Nat, v ≤ b ∧ x = nI v := by
  have g1 := mt (zl_lt (x := x) ha).mpr h1
  have g2 := (zl_le (x := x) hb).mp h2
  obtain ⟨v, h3, h4⟩ := nI_of (x := x) (fun q => by have := (zl_lt (z := 0) (by decide)).mp q; omega)
  rw [h4, nI_toInt h3] at g2
  exact ⟨v, by omega, h4⟩
theorem ok_rekey (h : wellOK pn sl dr nw kd bd yr Y) (x z : Int32) : wellOK pn (F_X5_rekey pn sl dr x z).2.1 (F_X5_rekey pn sl dr x z).2.2 nw kd bd yr Y := by
  rw [F_X5_rekey]
  by_cases c0 : F_X5_hasWell pn = 0
  · rw [if_pos c0]; exact h
  rw [if_neg c0]
  by_cases c1 : x < 1
  · rw [if_pos c1]; exact h
  rw [if_neg c1]
  by_cases c2 : 5 < x
  · rw [if_pos c2]; exact h
  rw [if_neg c2]
  by_cases c3 : z < 0
  · rw [if_pos c3]; exact h
  rw [if_neg c3]
  by_cases c4 : z ≤ 5
  case neg => rw [if_neg c4]; exact h
  rw [if_pos c4]
  obtain ⟨np, a, b, y, h1, h2, h3, h4, h5, h6, h7, h8, h9⟩ := h
  obtain ⟨a', a1, a2⟩ := rng_of (a := 1) (b := 5) (by decide) (by decide) c1 (Int32.not_lt.mp c2)
  obtain ⟨b', b1, b2⟩ := rng_of (a := 0) (b := 5) (by decide) (by decide) c3 c4
  exact ⟨np, a', b', y, h1, h2, a1, a2, b1, b2, h7, h8, h9⟩
theorem ok_years (h : wellOK pn sl dr nw kd bd yr Y) (n : Int32) : wellOK pn sl dr (F_X5_years pn nw n).2 kd bd yr (Y + 99) := by
  rw [F_X5_years]
  by_cases c1 : n < 1
  · rw [if_pos c1]; exact h.mono (by omega)
  rw [if_neg c1]
  by_cases c2 : n ≤ 99
  case neg => rw [if_neg c2]; exact h.mono (by omega)
  rw [if_pos c2]
  by_cases c0 : F_X5_hasWell pn = 0
  · rw [if_pos c0]; exact h.mono (by omega)
  rw [if_neg c0]
  obtain ⟨g, g1, g2⟩ := rng_of (a := 1) (b := 99) (by decide) (by decide) c1 c2
  obtain ⟨np, a, b, y, h1, h2, h3, h4, h5, h6, h7, h8, h9⟩ := h
  exact ⟨np, a, b, y + g, h1, h2, h3, h4, h5, h6, by omega, by show nw + n = _; rw [h8, g2, nI_add], fun i hi => ⟨(h9 i hi).1, (h9 i hi).2.1, by obtain ⟨t, t1, t2⟩ := (h9 i hi).2.2; exact ⟨t, by omega, t2⟩⟩⟩
theorem ok_throw (h : wellOK pn sl dr nw kd bd yr Y) (hr : rdI rc rp pn) (k v : Int32) : wellOK (F_X5_throwIn pn sl dr nw kd bd yr k v).2.1 sl dr nw (F_X5_throwIn pn sl dr nw kd bd yr k v).2.2.1 (F_X5_throwIn pn sl dr nw kd bd yr k v).2.2.2.1 (F_X5_throwIn pn sl dr nw kd bd yr k v).2.2.2.2 Y ∧ rdI rc rp (F_X5_throwIn pn sl dr nw kd bd yr k v).2.1 := by
  rw [F_X5_throwIn]
  by_cases c1 : F_X5_isKind k = 0
  · rw [if_pos c1]; exact ⟨h, hr⟩
  rw [if_neg c1]
  by_cases c2 : F_X5_isBend v = 0
  · rw [if_pos c2]; exact ⟨h, hr⟩
  rw [if_neg c2]
  by_cases c0 : F_X5_hasWell pn = 0
  · rw [if_pos c0]; exact ⟨h, hr⟩
  rw [if_neg c0]
  have main : wellOK (F_X4_addTop pn nw kd bd yr k v).2.1 sl dr nw (F_X4_addTop pn nw kd bd yr k v).2.2.1 (F_X4_addTop pn nw kd bd yr k v).2.2.2.1 (F_X4_addTop pn nw kd bd yr k v).2.2.2.2 Y ∧ rdI rc rp (F_X4_addTop pn nw kd bd yr k v).2.1 := by
    obtain ⟨k0, k1, k2⟩ := kind_of c1
    obtain ⟨v0, v1, v2⟩ := bend_of c2
    rw [F_X4_addTop]
    by_cases c3 : pn < 0
    · rw [if_pos c3]; exact ⟨h, hr⟩
    rw [if_neg c3]
    by_cases c4 : pn < 9
    case neg => rw [if_neg c4]; exact ⟨h, hr⟩
    rw [if_pos c4]
    obtain ⟨np, a, b, y, h1, h2, h3, h4, h5, h6, h7, h8, h9⟩ := h
    have hn : np < 9 := by have := (zl_lt (z := 9) (by decide)).mp c4; rw [z_tiN h2 (by omega)] at this; omega
    have ep : pn.toNatClampNeg = np := by rw [h2]; exact nI_clamp (by omega)
    have ep1 : pn + 1 = nI (np + 1) := by rw [h2]; exact nI_1 np
    refine ⟨⟨np + 1, a, b, y, by omega, ep1, h3, h4, h5, h6, h7, h8, fun i hi => ?_⟩, ?_⟩
    · dsimp only
      rw [ep]
      by_cases q : i = np
      · rw [q, pk_us, pk_us, pk_us]
        exact ⟨⟨k0, k1, k2⟩, ⟨v0, v1, v2⟩, ⟨y, Nat.le_refl y, h8⟩⟩
      · rw [pk_un q, pk_un q, pk_un q]
        exact h9 i (by omega)
    · obtain ⟨nr, np', r1, r2, r3, r4, r5⟩ := hr
      have e : np' = np := nI_inj (by omega) (by omega) (r4.symm.trans h2)
      subst e
      exact ⟨nr, np' + 1, r1, r2, by omega, ep1, fun i hi => by obtain ⟨p, p1, p2⟩ := r5 i hi; exact ⟨p, by omega, p2⟩⟩
  by_cases c3 : (F_X4_addTop pn nw kd bd yr k v).1 = 0
  · rw [if_pos c3]; exact main
  · rw [if_neg c3]; exact main
theorem ok_fish (h : wellOK pn sl dr nw kd bd yr Y) (hr : rdI rc rp pn) : wellOK (F_X5_fish pn sl dr kd bd yr rc).2.1 sl dr nw kd bd yr Y ∧ rdI (F_X5_fish pn sl dr kd bd yr rc).2.2 rp (F_X5_fish pn sl dr kd bd yr rc).2.1 := by
  obtain ⟨np, a, b, y, h1, h2, h3, h4, h5, h6, h7, h8, h9⟩ := id h
  rw [F_X5_fish, F_X4_dropTop]
  by_cases c : 2 ≤ pn
  · have hh : ¬ ((1 : Int32), pn - 1).1 = 0 := show ¬ (1 : Int32) = 0 by decide
    have h20 : 2 ≤ np := by have := (zl_ge (z := 2) (by decide)).mp c; rw [z_tiN h2 (by omega)] at this; omega
    have e1 : pn - 1 = nI (np - 1) := z_sub1 h2 (by omega)
    rw [if_pos c, if_neg hh]
    exact ⟨⟨np - 1, a, b, y, by omega, e1, h3, h4, h5, h6, h7, h8, fun i hi => h9 i (by omega)⟩, ⟨0, np - 1, by omega, rfl, by omega, e1, fun i hi => by omega⟩⟩
  · have hh : ((0 : Int32), pn).1 = 0 := rfl
    rw [if_neg c, if_pos hh]
    exact ⟨h, hr⟩
theorem ok_reading (hr : rdI rc rp pn) (k v : Int32) : rdI (F_X5_reading pn rc rp rw' k v).2.1 (F_X5_reading pn rc rp rw' k v).2.2.1 pn := by
  obtain ⟨nr, np, r1, r2, r3, r4, r5⟩ := id hr
  rw [F_X5_reading]
  rcases pin_cases (k := k) r4 r3 with ⟨h1, h2, k0, h3, h4⟩ | ⟨h1, h2⟩
  case inr => rw [if_pos h1]; exact hr
  rw [if_neg h1]
  by_cases c : F_X5_isWish v = 0
  · rw [if_pos c]; exact hr
  rw [if_neg c]
  have main : rdI (F_X2_add rc rp rw' k v).2.1 (F_X2_add rc rp rw' k v).2.2.1 pn := by
    rw [F_X2_add]
    by_cases c1 : rc < 0
    · rw [if_pos c1]; exact hr
    rw [if_neg c1]
    by_cases c2 : rc < 8
    case neg => rw [if_neg c2]; exact hr
    rw [if_pos c2]
    have hn : nr < 8 := by have := (zl_lt (z := 8) (by decide)).mp c2; rw [z_tiN r2 (by omega)] at this; omega
    have er : rc.toNatClampNeg = nr := by rw [r2]; exact nI_clamp (by omega)
    refine ⟨nr + 1, np, by omega, by rw [r2]; exact nI_1 nr, r3, r4, fun i hi => ?_⟩
    dsimp only
    rw [er]
    by_cases q : i = nr
    · rw [q, pk_us]; exact ⟨k0, h3, h4⟩
    · rw [pk_un q]; exact r5 i (by omega)
  by_cases c3 : (F_X2_add rc rp rw' k v).1 = 0
  · rw [if_pos c3]; exact main
  · rw [if_neg c3]; exact main
theorem ok_back (hr : rdI rc rp pn) (k : Int32) : rdI (F_X5_back rc k).2 rp pn := by
  obtain ⟨nr, np, r1, r2, r3, r4, r5⟩ := id hr
  rw [F_X5_back]
  by_cases c1 : k < 0
  · rw [if_pos c1]; exact hr
  rw [if_neg c1]
  by_cases c2 : k ≤ rc
  case neg => rw [if_neg c2]; exact hr
  rw [if_pos c2]
  obtain ⟨j, j1, j2⟩ := nI_of c1
  have hj : j ≤ nr := by rw [j2, r2] at c2; exact (nI_leI (by omega) (by omega)).mp c2
  exact ⟨nr - j, np, by omega, by show rc - k = _; rw [r2, j2]; exact pk_sub hj, r3, r4, fun i hi => r5 i (by omega)⟩
end Q17
/-- what holds between the two objects -/
def LInv (pn sl dr nw rc : Int32) (kd bd yr rp ss sa sh ln lg : Nat → Int32) (cl : Nat → Nat → Int32) (n : Nat) : Prop := wellOK pn sl dr nw kd bd yr (99 * n) ∧ rdI rc rp pn ∧ SR ss sa sh ln lg cl
section Q18
variable {pn sl dr nw rc fw lb pnt slt drt nwt lp lw ln lg lno lgo k la ti tn w v o i j n fl yn ra rp rs rd ry rg pk yk : Int32} {kd bd yr kdt bdt yrt cs wa sp cl clo ss sa sh ko bo yo ka ba ta kk bk tk wo hn : Nat → Int32}
theorem nsh {k : Int32} (h : F_X5_isSheet k = 0) : ¬ F_X6_noSheet k = 0 := (isSheet_in k).mp h
theorem sheet_of {k : Int32} (h : ¬ F_X5_isSheet k = 0) : ∃ j : Nat, j < 4 ∧ k = nI j := noSheet_in (Classical.byContradiction (fun q => h ((isSheet_in k).mpr q)))
theorem iv_well (h : F_X5_isSheet k = 0) : F_X5_well pn sl dr nw kd bd yr rc ln lg cl k la ti tn = (-1, 0, pn, sl, dr, nw, kd, bd, yr, rc) ∧ F_X6_well fl pn sl dr yn ra rp rs rd ry rg ko bo yo ka ba ta ss sa sh k la ti tn = (-1, 0, pn, rs, rd, ry, sl, rg, dr, yn, ra, rp, ko, bo, yo, ka, ba, ta) := by
  rw [F_X5_well, F_X6_well, if_pos h, if_neg (nsh h)]; exact ⟨rfl, rfl⟩
theorem iv_century (h : F_X5_isSheet k = 0) : F_X5_century pn sl dr nw kd bd yr fw lb pnt slt drt nwt kdt bdt yrt ln lg cl k la ti tn w = (-1, 0, yrt, fw, lb, pnt, slt, drt, nwt, kdt, bdt) ∧ F_X6_century fl pn sl dr yn pk yk ko bo yo kk bk tk ss sa sh k la ti tn w = (-1, 0, pn, pk, yk, yn, ko, bo, yo, kk, bk, tk) := by
  rw [F_X5_century, F_X6_century, if_pos h, if_neg (nsh h)]; exact ⟨rfl, rfl⟩
theorem iv_layers (h : F_X5_isSheet k = 0) : F_X5_layers pn sl dr kd bd yr lp lw cs wa sp ln lg cl k la ti v = (-1, 0, lp, lw, cs, wa, sp) ∧ F_X6_layers fl pn sl dr ko bo yo wo ss sa sh k la ti v = (-1, 0, wo) := by
  rw [F_X5_layers, F_X6_layers, if_pos h, if_neg (nsh h)]; exact ⟨rfl, rfl⟩
theorem iv_sheet (h : F_X5_isSheet k = 0) : F_X5_sheet ln lg cl k la n = (-1, 0, ln, lg, cl) ∧ F_X6_sheet ss sa sh k la n = (-1, 0, ss, sa, sh) := by
  rw [F_X5_sheet, F_X6_sheet, if_pos h, if_neg (nsh h)]; exact ⟨rfl, rfl⟩
theorem iv_lose (h : F_X5_isSheet k = 0) : F_X5_lose ln lg k = (-1, ln, lg) ∧ F_X6_lose ss k = (-1, ss) := by
  rw [F_X5_lose, F_X6_lose, if_pos h, if_neg (nsh h)]; exact ⟨rfl, rfl⟩
theorem iv_put (h : F_X5_isSheet k = 0) : F_X5_put ln lg cl k i v = (-1, 0, cl) ∧ F_X6_put ss sa sh k i v = (-1, 0, sh) := by
  rw [F_X5_put, F_X6_put, if_pos h, if_neg (nsh h)]; exact ⟨rfl, rfl⟩
theorem iv_cell (h : F_X5_isSheet k = 0) : F_X5_cell ln lg cl k i la = F_X6_cell ss sa sh k i la := by
  rw [F_X5_cell, F_X6_cell, if_pos h, if_neg (nsh h)]; rfl
theorem iv_copy (h : F_X5_isSheet k = 0 ∨ F_X5_isSheet o = 0) : F_X5_copyD ln lg cl lno lgo clo k i o j n = (-1, 0, clo) ∧ F_X6_copy ss sa sh hn k i o j n = (-1, 0, sh, hn) := by
  rw [F_X5_copyD, F_X6_copy]
  by_cases c : F_X5_isSheet k = 0
  · rw [if_pos c, if_neg (nsh c)]; exact ⟨rfl, rfl⟩
  · have c2 : F_X5_isSheet o = 0 := by rcases h with h | h; exact absurd h c; exact h
    have c3 : F_X6_noSheet k = 0 := Classical.byContradiction (fun q => c ((isSheet_in k).mpr q))
    rw [if_neg c, if_pos c2, if_pos c3, if_neg (nsh c2)]; exact ⟨rfl, rfl⟩
end Q18
