section Q8
variable {sh : Nat → Int32} {lg sl dr ti tn tf : Int32} {cl : Nat → Int32} {jj n a0 f0 N : Nat} {kd0 bd0 yr0 kd bd yr : Nat → Int32} {pn0 nw0 : Int32}
theorem l22_f {K : Int32 → Int32 → Int32 → Int32 → Int32 → (Nat → Int32) → (Nat → Int32) → (Nat → Int32) → Int32 × Int32 × Int32 × Int32 × Int32 × Int32 × (Nat → Int32) × (Nat → Int32) × (Nat → Int32)} (d : Nat) (x fw lb pnt nwt : Int32) (kdt bdt yrt : Nat → Int32) (h : ¬ fw = -9) : F_X0_play_l22 kd0 bd0 yr0 pn0 sl dr nw0 kd bd yr lg cl ti tn K d x fw lb pnt nwt kdt bdt yrt = K x fw lb pnt nwt kdt bdt yrt := by
  cases d with
  | zero => rfl
  | succ d =>
    rw [F_X0_play_l22]
    by_cases c : tn ≤ x
    · rw [if_pos c]
    · rw [if_neg c, if_neg h]
theorem l10_f {K : Int32 → Int32 → Int32 → Int32 → Int32 → (Nat → Int32) → (Nat → Int32) → (Nat → Int32) → Int32 × Int32 × Int32 × (Nat → Int32) × (Nat → Int32) × (Nat → Int32)} (d : Nat) (x4 x5 x6 pn yn : Int32) (ko bo yo : Nat → Int32) (h : 0 ≤ x4) : F_X6_centuryBy_l10 sl dr sh tf tn K d x4 x5 x6 pn yn ko bo yo = K x4 x5 x6 pn yn ko bo yo := by
  cases d with
  | zero => rfl
  | succ d =>
    rw [F_X6_centuryBy_l10]
    by_cases c : tn ≤ x6
    · rw [if_pos c]
    · rw [if_neg c, if_pos h]
theorem play_l (htn : tn = nI N) (hN : N ≤ 20) (hti : ti = nI a0) (htf : tf = nI f0) (hlg : lg = nI n) (hn : n ≤ 60) (haN : a0 + 2 * N ≤ n) (hf : f0 + 2 * N ≤ 240) (hcl : ∀ t, t < 2 * N → cl (a0 + t) = sh (f0 + t)) (hact : ∀ x, x < N → ¬ F_X6_isPair (sh (f0 + 2 * x)) (sh (f0 + 2 * x + 1)) = 0)
    {K1 : Int32 → Int32 → Int32 → Int32 → Int32 → (Nat → Int32) → (Nat → Int32) → (Nat → Int32) → Int32 × Int32 × Int32 × Int32 × Int32 × Int32 × (Nat → Int32) × (Nat → Int32) × (Nat → Int32)} {K2 : Int32 → Int32 → Int32 → Int32 → Int32 → (Nat → Int32) → (Nat → Int32) → (Nat → Int32) → Int32 × Int32 × Int32 × (Nat → Int32) × (Nat → Int32) × (Nat → Int32)} {oko obo oyo : Nat → Int32} :
    ∀ (r j q d1 d2 : Nat) (lb nw : Int32) (kdt bdt yrt ko bo yo : Nat → Int32), j + r = N → 1 ≤ q → q ≤ 9 → ag kdt ko → ag bdt bo → ag yrt yo → ab ko oko → ab bo obo → ab yo oyo → r < d1 → r < d2 →
    ∃ (fw' lb' nw' x5' x6' : Int32) (q' : Nat) (kdt' bdt' yrt' ko' bo' yo' : Nat → Int32),
      F_X0_play_l22 kd0 bd0 yr0 pn0 sl dr nw0 kd bd yr lg cl ti tn K1 d1 (nI j) (-9) lb (nI q) nw kdt bdt yrt = K1 x5' fw' lb' (nI q') nw' kdt' bdt' yrt' ∧
      F_X6_centuryBy_l10 sl dr sh tf tn K2 d2 (-9) lb (nI j) (nI q) nw ko bo yo = K2 fw' lb' x6' (nI q') nw' ko' bo' yo' ∧ (fw' = -9 ∨ 0 ≤ fw') ∧ 1 ≤ q' ∧ q' ≤ 9 ∧ ag kdt' ko' ∧ ag bdt' bo' ∧ ag yrt' yo' ∧ ab ko' oko ∧ ab bo' obo ∧ ab yo' oyo := by
  intro r
  induction r with
  | zero =>
    intro j q d1 d2 lb nw kdt bdt yrt ko bo yo hj hq1 hq9 a1 a2 a3 b1 b2 b3 hd1 hd2
    obtain ⟨d1', rfl⟩ : ∃ d', d1 = d' + 1 := ⟨d1 - 1, by omega⟩
    obtain ⟨d2', rfl⟩ : ∃ d', d2 = d' + 1 := ⟨d2 - 1, by omega⟩
    have c : tn ≤ nI j := by rw [htn, show N = j by omega]; exact Int32.le_refl _
    exact ⟨-9, lb, nw, nI j, nI j, q, kdt, bdt, yrt, ko, bo, yo, by rw [F_X0_play_l22, if_pos c], by rw [F_X6_centuryBy_l10, if_pos c], Or.inl rfl, hq1, hq9, a1, a2, a3, b1, b2, b3⟩
  | succ r ih =>
    intro j q d1 d2 lb nw kdt bdt yrt ko bo yo hj hq1 hq9 a1 a2 a3 b1 b2 b3 hd1 hd2
    obtain ⟨d1', rfl⟩ : ∃ d', d1 = d' + 1 := ⟨d1 - 1, by omega⟩
    obtain ⟨d2', rfl⟩ : ∃ d', d2 = d' + 1 := ⟨d2 - 1, by omega⟩
    have hjN : j < N := by omega
    have c : ¬ tn ≤ nI j := fun z => by rw [htn] at z; have := (nI_leI (by omega) (by omega)).mp z; omega
    have n9 : ¬ (0 : Int32) ≤ -9 := by decide
    have e1 : F_X3_at lg cl (ti + (2 : Int32) * nI j) = sh (f0 + 2 * j) := by
      rw [two_e hti rfl, hlg, at_e hn (by omega)]; exact hcl (2 * j) (by omega)
    have e2 : F_X3_at lg cl (ti + (2 : Int32) * nI j + 1) = sh (f0 + 2 * j + 1) := by
      rw [two_e hti rfl, nI_1, hlg, at_e hn (by omega)]; exact hcl (2 * j + 1) (by omega)
    have e3 : (tf + (2 : Int32) * nI j).toNatClampNeg = f0 + 2 * j := by rw [two_e htf rfl]; exact nI_clamp (by omega)
    have e4 : (tf + (2 : Int32) * nI j + 1).toNatClampNeg = f0 + 2 * j + 1 := by rw [two_e htf rfl, nI_1]; exact nI_clamp (by omega)
    have hp := hact j hjN
    have eb1 : (F_X4_become kd0 bd0 yr0 pn0 sl dr nw0 kd bd yr).2.1 = sl := rfl
    have eb2 : (F_X4_become kd0 bd0 yr0 pn0 sl dr nw0 kd bd yr).2.2.1 = dr := rfl
    rw [F_X0_play_l22, F_X6_centuryBy_l10, if_neg c, if_neg c, if_pos rfl, if_neg n9, e1, e2, e3, e4, eb1, eb2]
    generalize sh (f0 + 2 * j) = a at hp ⊢
    generalize sh (f0 + 2 * j + 1) = b at hp ⊢
    have z0 : ∀ x : Int32, x + 0 = x := Int32.add_zero
    have z1 : ∀ x : Int32, x - 0 = x := Int32.sub_zero
    have fj : ¬ nI j = (-9 : Int32) := fun z => by have := nI_pos (n := j) (by omega); rw [z] at this; exact this (by decide)
    have pj : 0 ≤ nI j := nI_pos' (by omega)
    have h4 := in_l0 b 0 4 0 4 (by decide) (by decide)
    have g3 := zl_ge (x := b) (k := 3) (z := 3) (by decide)
    have i3 := zl_eq (x := b) (k := 3) (z := 3) (by decide)
    have i4 := zl_eq (x := b) (k := 4) (z := 4) (by decide)
    have hb : ¬ F_X6_in b.toInt64 (0 : Int64) (4 : Int64) = 0 := fun z => hp (by rw [F_X6_isPair, if_pos z])
    have hb2 := mt h4.mpr hb
    by_cases c3 : b = 3
    · have hc : F_X0_canDo lb (nI q) sl dr nw kdt bdt yrt a b = (1, lb, nI q, nw + a, kdt, bdt, yrt) := by
        rw [F_X0_canDo, if_neg (by rw [c3]; decide), if_pos c3]
      have n0 : ¬ (1 : Int32) = 0 := by decide
      rw [hc, if_pos (g3.mpr (by have := i3.mp c3; omega)), if_pos c3, z0, z1]
      dsimp only
      rw [if_neg n0, nI_1]
      exact ih (j + 1) q d1' d2' lb (nw + a) kdt bdt yrt ko bo yo (by omega) hq1 hq9 a1 a2 a3 b1 b2 b3 (by omega) (by omega)
    by_cases c4 : b = 4
    · have g := g3.mpr (show (3 : Int) ≤ b.toInt by have := i4.mp c4; omega)
      rw [if_pos g, if_neg c3]
      by_cases c5 : 2 ≤ q
      · have hc : F_X0_canDo lb (nI q) sl dr nw kdt bdt yrt a b = (1, lb, nI q - 1, nw, kdt, bdt, yrt) := by
          rw [F_X0_canDo, if_pos c4, F_X4_dropTop, if_pos (by rw [zl_ge (z := 2) (by decide), nI_toInt (by omega)]; omega)]
        have n1 : ¬ nI q ≤ 1 := by rw [zl_le (z := 1) (by decide), nI_toInt (by omega)]; omega
        have n0 : ¬ (1 : Int32) = 0 := by decide
        rw [hc, if_neg n1, if_pos c4, z0, z0]
        dsimp only
        rw [if_neg n0, nI_1, z_sub1 rfl hq1]
        exact ih (j + 1) (q - 1) d1' d2' lb nw kdt bdt yrt ko bo yo (by omega) (by omega) (by omega) a1 a2 a3 b1 b2 b3 (by omega) (by omega)
      · have hc : F_X0_canDo lb (nI q) sl dr nw kdt bdt yrt a b = (0, lb, nI q, nw, kdt, bdt, yrt) := by
          rw [F_X0_canDo, if_pos c4, F_X4_dropTop, if_neg (by rw [zl_ge (z := 2) (by decide), nI_toInt (by omega)]; omega)]
        have n1 : nI q ≤ 1 := by rw [zl_le (z := 1) (by decide), nI_toInt (by omega)]; omega
        rw [hc, if_pos n1, if_pos c4, z0, z0, z1]
        dsimp only
        rw [if_pos rfl, l22_f _ _ _ _ _ _ _ _ _ fj, l10_f _ _ _ _ _ _ _ _ _ pj]
        exact ⟨nI j, lb, nw, nI j + 1, nI j + 1, q, kdt, bdt, yrt, ko, bo, yo, rfl, rfl, Or.inr pj, hq1, hq9, a1, a2, a3, b1, b2, b3⟩
    · have ng : ¬ (3 : Int32) ≤ b := fun z => by
        have h1 := g3.mp z
        have h2 := mt i3.mpr c3
        have h3 := mt i4.mpr c4
        omega
      rw [if_neg ng]
      by_cases c5 : q = 9
      · have t0 : F_X6_threw (nI q) nw ko bo yo b a = (0, nI q, ko, bo, yo) := by rw [F_X6_threw, if_pos (by rw [c5]; rfl)]
        have t1 : F_X4_addTop (nI q) nw kdt bdt yrt b a = (0, nI q, kdt, bdt, yrt) := by rw [threw_eq rfl hq9, F_X6_threw, if_pos (by rw [c5]; rfl)]
        have hc : F_X0_canDo lb (nI q) sl dr nw kdt bdt yrt a b = (0, lb, nI q, nw, kdt, bdt, yrt) := by
          rw [F_X0_canDo, if_neg c4, if_neg c3, t1]
          dsimp only
          rw [if_pos rfl]
        rw [hc, t0]
        dsimp only
        rw [if_pos rfl, if_pos rfl, z0, z0, z1, l22_f _ _ _ _ _ _ _ _ _ fj, l10_f _ _ _ _ _ _ _ _ _ pj]
        exact ⟨nI j, lb, nw, nI j + 1, nI j + 1, q, kdt, bdt, yrt, ko, bo, yo, rfl, rfl, Or.inr pj, hq1, hq9, a1, a2, a3, b1, b2, b3⟩
      · have nq : ¬ nI q = (9 : Int32) := fun z => c5 (nI_inj (by omega) (by omega) (z.trans (rfl : (9 : Int32) = nI 9)))
        have eq' : (nI q).toNatClampNeg = q := nI_clamp (by omega)
        have t0 : F_X6_threw (nI q) nw ko bo yo b a = (1, nI (q + 1), upd ko q b, upd bo q a, upd yo q nw) := by rw [F_X6_threw, if_neg nq, eq', nI_1]
        have t1 : F_X4_addTop (nI q) nw kdt bdt yrt b a = (1, nI (q + 1), upd kdt q b, upd bdt q a, upd yrt q nw) := by rw [threw_eq rfl hq9, F_X6_threw, if_neg nq, eq', nI_1]
        have n0 : ¬ (1 : Int32) = 0 := by decide
        have s1 : nI (q + 1) - 1 = nI q := nI_pred q
        have s2 : nI (q + 1) - 2 = nI (q - 1) := by rw [z_sub2 (n := q + 1) rfl (by omega), show q + 1 - 2 = q - 1 by omega]
        have w1 : F_X4_wishAt (nI (q + 1)) sl dr (upd kdt q b) (upd bdt q a) (upd yrt q nw) (nI q) = F_X6_wishOf sl dr (upd ko q b) (upd bo q a) (upd yo q nw) (nI q) := wishAg (q := q + 1) rfl (by omega) (by omega) (a1.upd _ _) (a2.upd _ _) (a3.upd _ _)
        have w2 : F_X4_wishAt (nI q) sl dr kdt bdt yrt (nI q - 1) = F_X6_wishOf sl dr (upd ko q b) (upd bo q a) (upd yo q nw) (nI (q - 1)) := by
          rw [z_sub1 rfl hq1, wishAg (q := q) rfl hq9 (by omega) a1 a2 a3, wishOf_e (by omega), wishOf_e (by omega), pk_un (by omega), pk_un (by omega), pk_un (by omega)]
        rw [t0]
        dsimp only
        rw [if_neg n0, s1, s2, z0, z0, z1]
        by_cases c6 : F_X6_wishOf sl dr (upd ko q b) (upd bo q a) (upd yo q nw) (nI q) = F_X6_wishOf sl dr (upd ko q b) (upd bo q a) (upd yo q nw) (nI (q - 1))
        · have hc : F_X0_canDo lb (nI q) sl dr nw kdt bdt yrt a b = (1, lb + 1, nI (q + 1), nw, upd kdt q b, upd bdt q a, upd yrt q nw) := by
            rw [F_X0_canDo, if_neg c4, if_neg c3, t1]
            dsimp only
            rw [if_neg n0, s1, w1, w2, if_pos c6]
          rw [hc, if_pos c6]
          dsimp only
          rw [if_neg n0, nI_1]
          exact ih (j + 1) (q + 1) d1' d2' (lb + 1) nw _ _ _ _ _ _ (by omega) (by omega) (by omega) (a1.upd _ _) (a2.upd _ _) (a3.upd _ _) (b1.upd (by omega) _) (b2.upd (by omega) _) (b3.upd (by omega) _) (by omega) (by omega)
        · have hc : F_X0_canDo lb (nI q) sl dr nw kdt bdt yrt a b = (1, lb, nI (q + 1), nw, upd kdt q b, upd bdt q a, upd yrt q nw) := by
            rw [F_X0_canDo, if_neg c4, if_neg c3, t1]
            dsimp only
            rw [if_neg n0, s1, w1, w2, if_neg c6]
          rw [hc, if_neg c6]
          dsimp only
          rw [if_neg n0, nI_1]
          exact ih (j + 1) (q + 1) d1' d2' lb nw _ _ _ _ _ _ (by omega) (by omega) (by omega) (a1.upd _ _) (a2.upd _ _) (a3.upd _ _) (b1.upd (by omega) _) (b2.upd (by omega) _) (b3.upd (by omega) _) (by omega) (by omega)
end Q8
