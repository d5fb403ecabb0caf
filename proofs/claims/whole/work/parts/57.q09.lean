section Q9
variable {ss sa sh : Nat → Int32} {ln lg sl dr fl ti tn tf pn nw : Int32} {cl : Nat → Int32} {jj n a0 f0 N np : Nat} {kd bd yr : Nat → Int32}
theorem aw_l {q : Nat} (hq : q ≤ 9) {kdt bdt yrt ko bo yo : Nat → Int32} (a1 : ag kdt ko) (a2 : ag bdt bo) (a3 : ag yrt yo) (K : Int32 → Int32 → Int32 × Int32 × Int32 × (Nat → Int32) × (Nat → Int32) × (Nat → Int32)) : ∀ (d i : Nat) (x : Int32), i ≤ q → ∃ x7 : Int32, F_X6_centuryBy_l253 sl dr (nI q) ko bo yo K d x (nI i) = K (F_X0_allWishes_l4 (nI q) sl dr kdt bdt yrt F_X0_allWishes_k4 d x (nI i)) x7 := by
  intro d
  induction d with
  | zero => intro i x _; exact ⟨nI i, rfl⟩
  | succ d ih =>
    intro i x hi
    rw [F_X6_centuryBy_l253, F_X0_allWishes_l4]
    by_cases c : nI q ≤ nI i
    · rw [if_pos c, if_pos c]; exact ⟨nI i, rfl⟩
    · have hlt : i < q := by
        rcases Nat.lt_or_ge i q with z | z
        · exact z
        · exact absurd (nI_le z (by omega)) c
      rw [if_neg c, if_neg c, nI_1, wishAg (q := q) rfl hq hlt a1 a2 a3]
      exact ih _ _ (by omega)
theorem told_e {q : Nat} (hq : q ≤ 9) {fw lb x6 w : Int32} {kdt bdt yrt ko bo yo : Nat → Int32} (hfw : fw = -9 ∨ 0 ≤ fw) (a1 : ag kdt ko) (a2 : ag bdt bo) (a3 : ag yrt yo) (hw : ¬ F_X5_isToldOfCentury w = 0) : F_X6_centuryBy_k10 sl dr w fw lb x6 (nI q) nw ko bo yo = (F_X0_told fw lb (nI q) sl dr nw kdt bdt yrt w, nI q, nw, ko, bo, yo) := by
  rw [F_X6_centuryBy_k10, F_X0_told]
  by_cases c1 : w = 1
  · rw [if_pos c1, if_pos c1]
  rw [if_neg c1, if_neg c1]
  rcases hfw with h | h
  case inr =>
    have n1 : ¬ fw < 0 := Int32.not_lt.mpr h
    have n2 : ¬ fw = -9 := fun z => by rw [z] at h; exact absurd h (by decide)
    rw [if_neg n1, if_neg n2]
  have p1 : fw < 0 := by rw [h]; decide
  rw [if_pos p1, if_pos h, if_neg c1]
  by_cases c10 : w < 10
  · rw [if_pos c10]
    obtain ⟨x7, e⟩ := aw_l (sl := sl) (dr := dr) hq a1 a2 a3 (F_X6_centuryBy_k253 w lb (nI q) nw ko bo yo) 10 0 0 (Nat.zero_le _)
    have e2 : F_X6_centuryBy_l253 sl dr (nI q) ko bo yo (F_X6_centuryBy_k253 w lb (nI q) nw ko bo yo) 10 0 0 = F_X6_centuryBy_k253 w lb (nI q) nw ko bo yo (F_X0_allWishes (nI q) sl dr kdt bdt yrt) x7 := e
    rw [e2, F_X6_centuryBy_k253]
    by_cases c0 : w = 0
    · rw [if_pos c0, if_pos c0]
    rw [if_neg c0, if_neg c0]
    by_cases c2 : w = 2
    · rw [if_pos c2, if_pos c2]
    rw [if_neg c2, if_neg c2]
    by_cases c3 : w = 3
    · rw [if_pos c3, if_pos c3]
    rw [if_neg c3, if_neg c3]
    have c4 : w = 4 := by
      have g0 := zl_lt (x := w) (k := 0) (z := 0) (by decide)
      have g4 := zl_le (x := w) (k := 4) (z := 4) (by decide)
      have i0 := zl_eq (x := w) (k := 0) (z := 0) (by decide)
      have i1 := zl_eq (x := w) (k := 1) (z := 1) (by decide)
      have i2 := zl_eq (x := w) (k := 2) (z := 2) (by decide)
      have i3 := zl_eq (x := w) (k := 3) (z := 3) (by decide)
      rw [F_X5_isToldOfCentury] at hw
      by_cases d1 : w < 0
      · rw [if_pos d1] at hw; exact absurd rfl hw
      rw [if_neg d1] at hw
      by_cases d2 : w ≤ 4
      · rw [zl_eq (z := 4) (by decide)]
        have := g4.mp d2
        have := mt g0.mpr d1
        have := mt i0.mpr c0
        have := mt i1.mpr c1
        have := mt i2.mpr c2
        have := mt i3.mpr c3
        omega
      · rw [if_neg d2, if_pos c10] at hw; exact absurd rfl hw
    rw [if_pos c4]
  · have g10 := zl_lt (x := w) (k := 10) (z := 10) (by decide)
    have g := mt g10.mpr c10
    have m0 : ¬ w = 0 := fun z => by have := (zl_eq (z := 0) (by decide)).mp z; omega
    have m2 : ¬ w = 2 := fun z => by have := (zl_eq (z := 2) (by decide)).mp z; omega
    have m3 : ¬ w = 3 := fun z => by have := (zl_eq (z := 3) (by decide)).mp z; omega
    have m4 : ¬ w = 4 := fun z => by have := (zl_eq (z := 4) (by decide)).mp z; omega
    rw [if_neg c10, if_neg m0, if_neg m2, if_neg m3, if_neg m4]
    rcases pin_cases (k := w - 10) (rfl : nI q = nI q) hq with ⟨h1, h2, p, h3, h4⟩ | ⟨h1, h2⟩
    · rw [if_pos h2, h4, wishAg (q := q) rfl hq h3 a1 a2 a3]
    · rw [if_neg h2, F_X4_wishAt, if_pos h1]
theorem keep_l {ko bo yo : Nat → Int32} (K : Int32 → (Nat → Int32) → (Nat → Int32) → (Nat → Int32) → Int32 × Int32 × (Nat → Int32) × (Nat → Int32) × (Nat → Int32)) : ∀ (d x : Nat) (kk bk tk : Nat → Int32), x ≤ 9 → 9 < x + d → (∀ i, i < x → kk i = ko i) → (∀ i, i < x → bk i = bo i) → (∀ i, i < x → tk i = yo i) → ∃ (kk' bk' tk' : Nat → Int32) (x' : Int32), F_X6_keepAll_l18 ko bo yo K d (nI x) kk bk tk = K x' kk' bk' tk' ∧ ag kk' ko ∧ ag bk' bo ∧ ag tk' yo := by
  intro d
  induction d with
  | zero => intro x kk bk tk h1 h2; omega
  | succ d ih =>
    intro x kk bk tk h1 h2 g1 g2 g3
    rw [F_X6_keepAll_l18]
    by_cases c : (9 : Int32) ≤ nI x
    · have : 9 ≤ x := by rw [zl_ge (z := 9) (by decide), nI_toInt (by omega)] at c; omega
      have ex : x = 9 := by omega
      subst ex
      rw [if_pos c]
      exact ⟨kk, bk, tk, _, rfl, g1, g2, g3⟩
    · have hx : x < 9 := by
        have : ¬ (9 : Int) ≤ x := fun q => c (by rw [zl_ge (z := 9) (by decide), nI_toInt (by omega)]; exact q)
        omega
      rw [if_neg c, nI_1, show (nI x).toNatClampNeg = x from nI_clamp (by omega)]
      have st : ∀ (f g : Nat → Int32), (∀ i, i < x → f i = g i) → ∀ i, i < x + 1 → upd f x (g x) i = g i := fun f g h i hi => by
        by_cases z : i = x
        · rw [z, pk_us]
        · rw [pk_un z]; exact h i (by omega)
      exact ih (x + 1) _ _ _ (by omega) (by omega) (st _ _ g1) (st _ _ g2) (st _ _ g3)
theorem back_l {kk bk tk : Nat → Int32} (K : Int32 → (Nat → Int32) → (Nat → Int32) → (Nat → Int32) → Int32 × Int32 × (Nat → Int32) × (Nat → Int32) × (Nat → Int32)) {oko obo oyo : Nat → Int32} : ∀ (d x : Nat) (ko bo yo : Nat → Int32), x ≤ 9 → 9 < x + d → (∀ i, i < x → ko i = kk i) → (∀ i, i < x → bo i = bk i) → (∀ i, i < x → yo i = tk i) → ab ko oko → ab bo obo → ab yo oyo → ∃ (ko' bo' yo' : Nat → Int32) (x' : Int32), F_X6_bringBack_l18 kk bk tk K d (nI x) ko bo yo = K x' ko' bo' yo' ∧ ag ko' kk ∧ ag bo' bk ∧ ag yo' tk ∧ ab ko' oko ∧ ab bo' obo ∧ ab yo' oyo := by
  intro d
  induction d with
  | zero => intro x kk bk tk h1 h2; omega
  | succ d ih =>
    intro x ko bo yo h1 h2 g1 g2 g3 b1 b2 b3
    rw [F_X6_bringBack_l18]
    by_cases c : (9 : Int32) ≤ nI x
    · have : 9 ≤ x := by rw [zl_ge (z := 9) (by decide), nI_toInt (by omega)] at c; omega
      have ex : x = 9 := by omega
      subst ex
      rw [if_pos c]
      exact ⟨ko, bo, yo, _, rfl, g1, g2, g3, b1, b2, b3⟩
    · have hx : x < 9 := by
        have : ¬ (9 : Int) ≤ x := fun q => c (by rw [zl_ge (z := 9) (by decide), nI_toInt (by omega)]; exact q)
        omega
      rw [if_neg c, nI_1, show (nI x).toNatClampNeg = x from nI_clamp (by omega)]
      have st : ∀ (f g : Nat → Int32), (∀ i, i < x → f i = g i) → ∀ i, i < x + 1 → upd f x (g x) i = g i := fun f g h i hi => by
        by_cases z : i = x
        · rw [z, pk_us]
        · rw [pk_un z]; exact h i (by omega)
      exact ih (x + 1) _ _ _ (by omega) (by omega) (st _ _ g1) (st _ _ g2) (st _ _ g3) (b1.upd hx _) (b2.upd hx _) (b3.upd hx _)
theorem ag_ab {f g h : Nat → Int32} (h1 : ag f g) (h2 : ag g h) (h3 : ab f h) : f = h := by
  funext i
  rcases Nat.lt_or_ge i 9 with c | c
  · rw [h1 i c, h2 i c]
  · exact h3 i c
theorem chk_l {fw lb pnt slt drt nwt : Int32} {kdt bdt yrt ko bo yo kk bk tk : Nat → Int32} {yn pk yk k : Int32} (htn : tn = nI N) (hN : N ≤ 20) (hti : ti = nI a0) (htf : (60 : Int32) * k + ti = nI f0) (hlg : lg = nI n) (hn : n ≤ 60) (haN : a0 + 2 * N ≤ n) (hf : f0 + 2 * N ≤ 240) (hcl : ∀ t, t < 2 * N → cl (a0 + t) = sh (f0 + t))
    {K1 : Int32 → Int32 × Int32 × (Nat → Int32) × Int32 × Int32 × Int32 × Int32 × Int32 × Int32 × (Nat → Int32) × (Nat → Int32)} {K2 : Int32 → Int32 × Int32 × Int32 × Int32 × Int32 × Int32 × (Nat → Int32) × (Nat → Int32) × (Nat → Int32) × (Nat → Int32) × (Nat → Int32) × (Nat → Int32)} :
    ∀ (r x d1 d2 : Nat), x + r = N → r < d1 → r < d2 →
      (F_X5_century_l90 fw lb pnt slt drt nwt kdt bdt yrt lg cl ti tn K1 d1 (nI x) = (-2, 0, yrt, fw, lb, pnt, slt, drt, nwt, kdt, bdt) ∧ F_X6_century_l114 pn yn pk yk ko bo yo kk bk tk sh k ti tn K2 d2 (nI x) = (-2, 0, pn, pk, yk, yn, ko, bo, yo, kk, bk, tk)) ∨
      ((∀ y, x ≤ y → y < N → ¬ F_X6_isPair (sh (f0 + 2 * y)) (sh (f0 + 2 * y + 1)) = 0) ∧ ∃ x1 x2, F_X5_century_l90 fw lb pnt slt drt nwt kdt bdt yrt lg cl ti tn K1 d1 (nI x) = K1 x1 ∧ F_X6_century_l114 pn yn pk yk ko bo yo kk bk tk sh k ti tn K2 d2 (nI x) = K2 x2) := by
  intro r
  induction r with
  | zero =>
    intro x d1 d2 hx hd1 hd2
    obtain ⟨d1', rfl⟩ : ∃ d', d1 = d' + 1 := ⟨d1 - 1, by omega⟩
    obtain ⟨d2', rfl⟩ : ∃ d', d2 = d' + 1 := ⟨d2 - 1, by omega⟩
    have c : tn ≤ nI x := by rw [htn, show N = x by omega]; exact Int32.le_refl _
    exact Or.inr ⟨fun y h1 h2 => by omega, nI x, nI x, by rw [F_X5_century_l90, if_pos c], by rw [F_X6_century_l114, if_pos c]⟩
  | succ r ih =>
    intro x d1 d2 hx hd1 hd2
    obtain ⟨d1', rfl⟩ : ∃ d', d1 = d' + 1 := ⟨d1 - 1, by omega⟩
    obtain ⟨d2', rfl⟩ : ∃ d', d2 = d' + 1 := ⟨d2 - 1, by omega⟩
    have c : ¬ tn ≤ nI x := fun z => by rw [htn] at z; have := (nI_leI (by omega) (by omega)).mp z; omega
    have e1 : F_X3_at lg cl (ti + (2 : Int32) * nI x) = sh (f0 + 2 * x) := by
      rw [two_e hti rfl, hlg, at_e hn (by omega)]; exact hcl (2 * x) (by omega)
    have e2 : F_X3_at lg cl (ti + (2 : Int32) * nI x + 1) = sh (f0 + 2 * x + 1) := by
      rw [two_e hti rfl, nI_1, hlg, at_e hn (by omega)]; exact hcl (2 * x + 1) (by omega)
    have e3 : ((60 : Int32) * k + ti + (2 : Int32) * nI x).toNatClampNeg = f0 + 2 * x := by rw [two_e htf rfl]; exact nI_clamp (by omega)
    have e4 : ((60 : Int32) * k + ti + (2 : Int32) * nI x + 1).toNatClampNeg = f0 + 2 * x + 1 := by rw [two_e htf rfl, nI_1]; exact nI_clamp (by omega)
    rw [F_X5_century_l90, F_X6_century_l114, if_neg c, if_neg c, e1, e2, e3, e4, nI_1]
    by_cases c2 : F_X6_isPair (sh (f0 + 2 * x)) (sh (f0 + 2 * x + 1)) = 0
    · rw [if_pos c2, if_pos ((isAct_e _ _).mpr c2)]
      exact Or.inl ⟨rfl, rfl⟩
    · rw [if_neg c2, if_neg (mt (isAct_e _ _).mp c2)]
      rcases ih (x + 1) d1' d2' (by omega) (by omega) (by omega) with h | ⟨h1, h2⟩
      · exact Or.inl h
      · refine Or.inr ⟨fun y h3 h4 => ?_, h2⟩
        rcases (by omega : y = x ∨ x + 1 ≤ y) with z | z
        · rw [z]; exact c2
        · exact h1 y z h4
theorem told_in (w : Int32) : F_X5_isToldOfCentury w = 0 ↔ F_X6_in w.toInt64 (0 : Int64) (4 : Int64) = 0 ∧ F_X6_in w.toInt64 (10 : Int64) (18 : Int64) = 0 := by
  rw [in_l0 w 0 4 0 4 (by decide) (by decide), in_l0 w 10 18 10 18 (by decide) (by decide), F_X5_isToldOfCentury]
  have g0 := zl_lt (x := w) (k := 0) (z := 0) (by decide)
  have g4 := zl_le (x := w) (k := 4) (z := 4) (by decide)
  have g10 := zl_lt (x := w) (k := 10) (z := 10) (by decide)
  have g19 := zl_ge (x := w) (k := 19) (z := 19) (by decide)
  by_cases c1 : w < 0
  · rw [if_pos c1]; have := g0.mp c1; exact ⟨fun _ => by omega, fun _ => rfl⟩
  rw [if_neg c1]
  have d1 := mt g0.mpr c1
  by_cases c2 : w ≤ 4
  · rw [if_pos c2]; have := g4.mp c2; exact ⟨fun q => absurd q (by decide), fun q => by omega⟩
  rw [if_neg c2]
  have d2 := mt g4.mpr c2
  by_cases c3 : w < 10
  · rw [if_pos c3]; have := g10.mp c3; exact ⟨fun _ => by omega, fun _ => rfl⟩
  rw [if_neg c3, ite01, g19]
  have d3 := mt g10.mpr c3
  omega
theorem st_century {k la w fw lb pnt slt drt nwt pk yk : Int32} {kdt bdt yrt kk bk tk : Nat → Int32} (hk : k = nI jj) (hj : jj < 4) (hpn : pn = nI np) (hnp : np ≤ 9) (h : shR (ss jj) (sa jj) (fun i => sh (60 * jj + i)) ln lg cl) :
    ∃ (r f pk' yk' : Int32) (kk' bk' tk' : Nat → Int32), F_X6_century fl pn sl dr nw pk yk kd bd yr kk bk tk ss sa sh k la ti tn w = (r, f, pn, pk', yk', nw, kd, bd, yr, kk', bk', tk') ∧ (F_X5_century pn sl dr nw kd bd yr fw lb pnt slt drt nwt kdt bdt yrt ln lg cl k la ti tn w).1 = r ∧ (F_X5_century pn sl dr nw kd bd yr fw lb pnt slt drt nwt kdt bdt yrt ln lg cl k la ti tn w).2.1 = f := by
  obtain ⟨n1, n2, ek⟩ := nS hk hj
  rw [F_X5_century, F_X6_century, if_neg n1, if_pos n2]
  by_cases c1 : F_X5_isLane la = 0
  · rw [if_pos c1, if_pos ((isLane_in la).mp c1)]; exact ⟨_, _, _, _, _, _, _, rfl, rfl, rfl⟩
  rw [if_neg c1, if_neg (mt (isLane_in la).mpr c1)]
  have hn := in_l0 tn 0 20 0 20 (by decide) (by decide)
  have g0 := zl_lt (x := tn) (k := 0) (z := 0) (by decide)
  have g20 := zl_gt (x := tn) (k := 20) (z := 20) (by decide)
  by_cases c2 : tn < 0
  · rw [if_pos c2, if_pos (hn.mpr (Or.inl (g0.mp c2)))]; exact ⟨_, _, _, _, _, _, _, rfl, rfl, rfl⟩
  rw [if_neg c2]
  by_cases c3 : 20 < tn
  · rw [if_pos c3, if_pos (hn.mpr (Or.inr (g20.mp c3)))]; exact ⟨_, _, _, _, _, _, _, rfl, rfl, rfl⟩
  have nn : ¬ F_X6_in tn.toInt64 (0 : Int64) (20 : Int64) = 0 := fun z => by rcases hn.mp z with q | q; exact c2 (g0.mpr q); exact c3 (g20.mpr q)
  rw [if_neg c3, if_neg nn]
  have ht := told_in w
  by_cases c4 : F_X5_isToldOfCentury w = 0
  · rw [if_pos c4, if_pos (ht.mp c4).1, if_pos (ht.mp c4).2]; exact ⟨_, _, _, _, _, _, _, rfl, rfl, rfl⟩
  rw [if_neg c4]
  have ej : (if F_X6_in w.toInt64 (0 : Int64) (4 : Int64) = 0 then (if F_X6_in w.toInt64 (10 : Int64) (18 : Int64) = 0 then ((F_X6_refused (-2 : Int32)).1, (F_X6_refused (-2 : Int32)).2, pn, pk, yk, nw, kd, bd, yr, kk, bk, tk) else F_X6_century_j73 fl pn sl dr nw pk yk kd bd yr kk bk tk ss sa sh k la ti tn w) else F_X6_century_j73 fl pn sl dr nw pk yk kd bd yr kk bk tk ss sa sh k la ti tn w) = F_X6_century_j73 fl pn sl dr nw pk yk kd bd yr kk bk tk ss sa sh k la ti tn w := by
    by_cases d1 : F_X6_in w.toInt64 (0 : Int64) (4 : Int64) = 0
    · have d2 : ¬ F_X6_in w.toInt64 (10 : Int64) (18 : Int64) = 0 := fun z => c4 (ht.mpr ⟨d1, z⟩)
      rw [if_pos d1, if_neg d2]
    · rw [if_neg d1]
  rw [ej, F_X6_century_j73]
  by_cases c0 : pn = 0
  · rw [if_pos c0, if_pos ((hasWell_0 hpn hnp).mpr c0)]; exact ⟨_, _, _, _, _, _, _, rfl, rfl, rfl⟩
  rw [if_neg c0, if_neg (mt (hasWell_0 hpn hnp).mp c0)]
  obtain ⟨N, hN, htn⟩ := nI_of2 (M := 20) (n := 20) (by decide) c2 (Int32.not_lt.mp c3)
  have e2n : (2 : Int32) * tn = nI (2 * N) := by rw [htn, show (2 : Int32) = nI 2 from rfl, pk_mul]
  have e2l : (2 : Int64) * tn.toInt64 = ((2 : Int32) * tn).toInt64 := by
    rw [e2n, htn, nI_l (by omega), nI_l (by omega), show (2 : Int64) = lN 2 from rfl, lN_mul]
  rw [e2l]
  have np1 := z_pos hpn c0
  rcases cells_c (fl := fl) (la := la) (i := ti) (m := (2 : Int32) * tn) hk hj h (by rw [e2n]; exact nI_pos (by omega)) with ⟨h1, h2, n, a0, M, h3, h4, h5, h6, h7, h8⟩ | ⟨h1, h2, h3⟩
  · have eM : M = 2 * N := nI_inj (by omega) (by rw [e2n] at h6; omega) (h6.symm.trans e2n)
    subst eM
    have hz : (0 : Int32) ≤ 0 := Int32.le_refl _
    rw [if_pos h1, h2]
    dsimp only
    rw [if_pos hz]
    have htf : (60 : Int32) * k + ti = nI (60 * jj + a0) := sheet_e hk h5
    have hcl : ∀ t, t < 2 * N → cl (a0 + t) = sh (60 * jj + a0 + t) := fun t ht => by rw [h8 (a0 + t) (by omega), Nat.add_assoc]
    rcases chk_l (pn := pn) (fw := fw) (lb := lb) (pnt := pnt) (slt := slt) (drt := drt) (nwt := nwt) (kdt := kdt) (bdt := bdt) (yrt := yrt) (ko := kd) (bo := bd) (yo := yr) (kk := kk) (bk := bk) (tk := tk) (yn := nw) (pk := pk) (yk := yk) (k := k) (K1 := F_X5_century_k90 pn sl dr nw kd bd yr kdt bdt yrt lg cl ti tn w) (K2 := F_X6_century_k114 pn sl dr nw kd bd yr kk bk tk sh k ti tn w) htn hN h5 htf h4 h3 h7 (by omega) hcl N 0 21 31 (by omega) (by omega) (by omega) with ⟨q1, q2⟩ | ⟨q0, x1, x2, q1, q2⟩
    · have q1' : F_X5_century_l90 fw lb pnt slt drt nwt kdt bdt yrt lg cl ti tn (F_X5_century_k90 pn sl dr nw kd bd yr kdt bdt yrt lg cl ti tn w) 21 0 = _ := q1
      have q2' : F_X6_century_l114 pn nw pk yk kd bd yr kk bk tk sh k ti tn (F_X6_century_k114 pn sl dr nw kd bd yr kk bk tk sh k ti tn w) 31 0 = _ := q2
      rw [q1', q2']; exact ⟨_, _, _, _, _, _, _, rfl, rfl, rfl⟩
    · have q1' : F_X5_century_l90 fw lb pnt slt drt nwt kdt bdt yrt lg cl ti tn (F_X5_century_k90 pn sl dr nw kd bd yr kdt bdt yrt lg cl ti tn w) 21 0 = _ := q1
      have q2' : F_X6_century_l114 pn nw pk yk kd bd yr kk bk tk sh k ti tn (F_X6_century_k114 pn sl dr nw kd bd yr kk bk tk sh k ti tn w) 31 0 = _ := q2
      rw [q1', q2', F_X5_century_k90, F_X6_century_k114]
      have cpy : ∀ f g : Nat → Int32, ag (va_cpy g f 0 0 9) g := fun f g i hi => by rw [pk_cpy_in (Nat.zero_le _) (by omega)]; simp
      obtain ⟨fw', lb', nw', x5', x6', q', kdt', bdt', yrt', ko', bo', yo', p1, p2, p3, p4, p5, p6, p7, p8, p9, p10, p11⟩ := play_l (tf := (60 : Int32) * k + ti) (sl := sl) (dr := dr) (kd0 := kdt) (bd0 := bdt) (yr0 := yrt) (kd := kd) (bd := bd) (yr := yr) (pn0 := pn) (nw0 := nw) (oko := kd) (obo := bd) (oyo := yr) (K1 := F_X0_play_k22 kdt bdt yrt pn sl dr nw kd bd yr) (K2 := F_X6_centuryBy_k10 sl dr w) htn hN h5 htf h4 h3 h7 (by omega) hcl (fun x hx => q0 x (Nat.zero_le _) hx) N 0 np 21 31 0 nw (va_cpy kd kdt 0 0 9) (va_cpy bd bdt 0 0 9) (va_cpy yr yrt 0 0 9) kd bd yr (by omega) np1 hnp (cpy _ _) (cpy _ _) (cpy _ _) (fun _ _ => rfl) (fun _ _ => rfl) (fun _ _ => rfl) (by omega) (by omega)
      have r1 : F_X0_play kdt bdt yrt pn sl dr nw kd bd yr lg cl ti tn = F_X0_play_k22 kdt bdt yrt pn sl dr nw kd bd yr x5' fw' lb' (nI q') nw' kdt' bdt' yrt' := by
        rw [F_X0_play, ← p1, hpn]; rfl
      have r2 : F_X6_centuryBy pn sl dr nw kd bd yr sh ((60 : Int32) * k + ti) tn w = (F_X0_told fw' lb' (nI q') sl dr nw' kdt' bdt' yrt' w, nI q', nw', ko', bo', yo') := by
        rw [← told_e (x6 := x6') p5 p3 p6 p7 p8 c4, ← p2, F_X6_centuryBy, hpn]; rfl
      obtain ⟨kk', bk', tk', xx, s1, s2, s3, s4⟩ := keep_l (ko := kd) (bo := bd) (yo := yr) (F_X6_keepAll_k18 pn nw) 10 0 kk bk tk (by omega) (by omega) (fun i hi => by omega) (fun i hi => by omega) (fun i hi => by omega)
      have r3 : F_X6_keepAll pn nw kd bd yr kk bk tk = (pn, nw, kk', bk', tk') := s1
      rw [r1, r2, r3, F_X0_play_k22]
      dsimp only
      obtain ⟨ko2, bo2, yo2, xx2, u1, u2, u3, u4, u5, u6, u7⟩ := back_l (kk := kk') (bk := bk') (tk := tk') (F_X6_bringBack_k18 pn nw) 10 0 ko' bo' yo' (by omega) (by omega) (fun i hi => by omega) (fun i hi => by omega) (fun i hi => by omega) p9 p10 p11
      have r4 : F_X6_bringBack pn nw ko' bo' yo' kk' bk' tk' = (pn, nw, ko2, bo2, yo2) := u1
      rw [r4, ag_ab u2 s2 u5, ag_ab u3 s3 u6, ag_ab u4 s4 u7]
      exact ⟨_, _, _, _, _, _, _, rfl, rfl, rfl⟩
  · rw [if_neg h1, if_neg h3, h2]
    exact ⟨_, _, _, _, _, _, _, rfl, rfl, rfl⟩
end Q9
