section Q7
def ag (f g : Nat → Int32) : Prop := ∀ i, i < 9 → f i = g i
def ab (f g : Nat → Int32) : Prop := ∀ i, 9 ≤ i → f i = g i
theorem ag.upd {f g : Nat → Int32} (h : ag f g) (k : Nat) (x : Int32) : ag (upd f k x) (upd g k x) := fun i hi => by
  by_cases c : i = k
  · rw [c, pk_us, pk_us]
  · rw [pk_un c, pk_un c]; exact h i hi
theorem ab.upd {f g : Nat → Int32} (h : ab f g) {k : Nat} (hk : k < 9) (x : Int32) : ab (upd f k x) g := fun i hi => by rw [pk_un (by omega)]; exact h i hi
variable {ss sa sh : Nat → Int32} {ln lg sl dr fl : Int32} {cl : Nat → Int32} {j : Nat}
theorem cells_c {k la i m : Int32} (hk : k = nI j) (hj : j < 4) (h : shR (ss j) (sa j) (fun i => sh (60 * j + i)) ln lg cl) (hm : ¬ m < 0) :
    (F_X3_faultOfCells ln lg la i m = 0 ∧ F_X6_cellsBarred fl ss sa k la i m.toInt64 = (0, fl) ∧ ∃ n a0 M : Nat, n ≤ 60 ∧ lg = nI n ∧ i = nI a0 ∧ m = nI M ∧ a0 + M ≤ n ∧ ∀ t, t < n → cl t = sh (60 * j + t)) ∨
    (¬ F_X3_faultOfCells ln lg la i m = 0 ∧ F_X6_cellsBarred fl ss sa k la i m.toInt64 = F_X5_failed (F_X3_faultOfCells ln lg la i m) ∧ ¬ 0 ≤ (F_X6_cellsBarred fl ss sa k la i m.toInt64).1) := by
  obtain ⟨n1, n2, ek⟩ := nS hk hj
  rw [F_X3_faultOfCells, F_X3_faultAs, F_X6_cellsBarred, ek]
  rcases h with ⟨h1, h2, h3⟩ | ⟨n, a, h1, h2, h3, h4, h5, h6, h7⟩
  · right
    rw [if_pos (hasRow_e.mpr h2), if_neg (show ¬ (1 : Int32) = 0 by decide), if_pos h1]
    exact ⟨by decide, rfl, by decide⟩
  · have r : ¬ F_X3_hasRow ln = 0 := fun q => nI_ne_m1 (by omega) (h6.symm.trans (hasRow_e.mp q))
    have p : ¬ ss j < 0 := by rw [h3]; exact nI_pos (by omega)
    rw [if_neg r, if_neg p, h5, h6]
    by_cases c2 : nI a = la
    case neg =>
      right
      rw [if_neg c2, if_neg (show ¬ (2 : Int32) = 0 by decide), if_neg c2]
      exact ⟨by decide, rfl, by decide⟩
    have g : 0 ≤ lg_cmp m.toInt64 (0 : Int64) := Int32.not_lt.mp (fun q => hm (by
      have := (lg_lt m.toInt64 0).mp q
      rw [l_ti, show (0 : Int64).toInt = 0 by decide] at this
      exact (zl_lt (z := 0) (by decide)).mpr this))
    rw [if_pos c2, if_pos rfl, if_pos c2, if_pos g, h4, h3]
    by_cases c : F_X3_hasCells (nI n) i m = 0
    · right
      rw [if_pos c, if_neg ((hasCells_e h1 i m).mp c)]
      exact ⟨by decide, rfl, by decide⟩
    · left
      have d1 : F_X6_isBeyond i m.toInt64 (nI n) = 0 := Classical.byContradiction (fun q => c ((hasCells_e h1 i m).mpr q))
      rw [if_neg c, if_pos d1]
      obtain ⟨x, y, e1, e2, e3⟩ := beyond_h h1 i m c
      exact ⟨rfl, rfl, n, x, y, h1, rfl, e1, e2, e3, h7⟩
theorem at_e {n b : Nat} (hn : n ≤ 60) (hb : b < n) : F_X3_at (nI n) cl (nI b) = cl b := by
  have h : ¬ F_X3_hasCells (nI n) (nI b) 1 = 0 := by
    rw [hasCells_e hn]
    refine fun q => q ?_
    rw [beyond_iff (by decide) (by decide), nI_toInt (by omega), nI_toInt (by omega), show ((1 : Int32).toInt64).toInt = 1 by decide]
    omega
  rw [F_X3_at, if_neg h, show (nI b).toNatClampNeg = b from nI_clamp (by omega)]
theorem isAct_e (a b : Int32) : F_X5_isAct a b = 0 ↔ F_X6_isPair a b = 0 := by
  have h4 := in_l0 b 0 4 0 4 (by decide) (by decide)
  have k2 := in_l0 b 0 2 0 2 (by decide) (by decide)
  have b9 := in_l0 a 0 9 0 9 (by decide) (by decide)
  have b99 := in_l0 a 0 99 0 99 (by decide) (by decide)
  have b0 := in_l0 a 0 0 0 0 (by decide) (by decide)
  have g3 := zl_ge (x := b) (k := 3) (z := 3) (by decide)
  have e3 := zl_eq (x := b) (k := 3) (z := 3) (by decide)
  have e4 := zl_eq (x := b) (k := 4) (z := 4) (by decide)
  have a0 := zl_eq (x := a) (k := 0) (z := 0) (by decide)
  have al := zl_lt (x := a) (k := 0) (z := 0) (by decide)
  have ag := zl_gt (x := a) (k := 99) (z := 99) (by decide)
  rw [F_X5_isAct, F_X6_isPair]
  by_cases c1 : F_X5_isKind b = 0
  · rw [if_pos c1]
    have q1 := k2.mp ((isKind_in b).mp c1)
    by_cases c3 : b = 3
    · have i3 := e3.mp c3
      have n4 : ¬ F_X6_in b.toInt64 (0 : Int64) (4 : Int64) = 0 := fun q => by have := h4.mp q; omega
      rw [if_pos c3, if_neg n4, if_pos (g3.mpr (by omega)), if_pos c3, ite01]
      by_cases c5 : a < 0
      · rw [if_pos c5]; exact ⟨fun _ => b99.mpr (Or.inl (al.mp c5)), fun _ => rfl⟩
      · rw [if_neg c5, ite01, b99, ag]
        have := mt al.mpr c5
        omega
    · rw [if_neg c3]
      by_cases c4 : b = 4
      · have i4 := e4.mp c4
        have n4 : ¬ F_X6_in b.toInt64 (0 : Int64) (4 : Int64) = 0 := fun q => by have := h4.mp q; omega
        rw [if_pos c4, if_neg n4, if_pos (g3.mpr (by omega)), if_neg c3, ite01, b0]
        by_cases c5 : a = 0
        · rw [if_pos c5]; have := a0.mp c5; exact ⟨fun q => absurd q (by decide), fun q => by omega⟩
        · rw [if_neg c5]; have := mt a0.mpr c5; exact ⟨fun _ => by omega, fun _ => rfl⟩
      · rw [if_neg c4]
        have := mt e3.mpr c3
        have := mt e4.mpr c4
        have y : F_X6_in b.toInt64 (0 : Int64) (4 : Int64) = 0 := h4.mpr (by omega)
        rw [if_pos y]
  · have q1 := mt k2.mpr (mt (isKind_in b).mpr c1)
    have n4 : ¬ F_X6_in b.toInt64 (0 : Int64) (4 : Int64) = 0 := fun q => by have := h4.mp q; omega
    have n3 : ¬ (3 : Int32) ≤ b := fun q => by have := g3.mp q; omega
    rw [if_neg c1, if_neg n4, if_neg n3, ite01]
    exact isBend_in a
theorem wishAg {pn : Int32} {q p : Nat} {kd bd yr ko bo yo : Nat → Int32} (hpn : pn = nI q) (hq : q ≤ 9) (hp : p < q) (h1 : ag kd ko) (h2 : ag bd bo) (h3 : ag yr yo) : F_X4_wishAt pn sl dr kd bd yr (nI p) = F_X6_wishOf sl dr ko bo yo (nI p) := by
  rw [wishAt_eq (isPin_of hpn hq hp), wishOf_e (by omega), wishOf_e (by omega), h1 p (by omega), h2 p (by omega), h3 p (by omega)]
end Q7
