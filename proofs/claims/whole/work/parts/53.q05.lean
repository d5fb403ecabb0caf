section Q5
def updF (f : Nat → Nat → Int32) (k : Nat) (x : Nat → Int32) : Nat → Nat → Int32 := fun j => if j = k then x else f j
theorem updF_s {f : Nat → Nat → Int32} {k : Nat} {x : Nat → Int32} : updF f k x k = x := if_pos rfl
theorem updF_n {f : Nat → Nat → Int32} {k j : Nat} {x : Nat → Int32} (h : j ≠ k) : updF f k x j = f j := if_neg h
/-- one sheet on both sides -/
def shR (sz la : Int32) (sh : Nat → Int32) (ln lg : Int32) (cl : Nat → Int32) : Prop :=
  (sz < 0 ∧ ln = -1 ∧ lg = 0) ∨ (∃ n a : Nat, n ≤ 60 ∧ a ≤ 2 ∧ sz = nI n ∧ lg = nI n ∧ la = nI a ∧ ln = nI a ∧ ∀ i, i < n → cl i = sh i)
def SR (ss sa sh : Nat → Int32) (ln lg : Nat → Int32) (cl : Nat → Nat → Int32) : Prop := ∀ j, j < 4 → shR (ss j) (sa j) (fun i => sh (60 * j + i)) (ln j) (lg j) (cl j)
theorem shR.congr {sz la ln lg : Int32} {sh sh' cl : Nat → Int32} (h : shR sz la sh ln lg cl) (he : ∀ i, i < 60 → sh' i = sh i) : shR sz la sh' ln lg cl := by
  rcases h with h | ⟨n, a, h1, h2, h3, h4, h5, h6, h7⟩
  · exact Or.inl h
  · exact Or.inr ⟨n, a, h1, h2, h3, h4, h5, h6, fun i hi => by rw [h7 i hi, he i (by omega)]⟩
theorem SR.set {ss sa sh ss' sa' sh' ln lg : Nat → Int32} {cl : Nat → Nat → Int32} {j : Nat} {ln' lg' : Int32} {cl' : Nat → Int32} (h : SR ss sa sh ln lg cl) (hj : shR (ss' j) (sa' j) (fun i => sh' (60 * j + i)) ln' lg' cl') (ho : ∀ t, t < 4 → t ≠ j → ss' t = ss t ∧ sa' t = sa t ∧ ∀ i, i < 60 → sh' (60 * t + i) = sh (60 * t + i)) : SR ss' sa' sh' (upd ln j ln') (upd lg j lg') (updF cl j cl') := by
  intro t ht
  by_cases c : t = j
  · subst c; rw [pk_us, pk_us, updF_s]; exact hj
  · obtain ⟨g1, g2, g3⟩ := ho t ht c
    rw [pk_un c, pk_un c, updF_n c, g1, g2]
    exact (h t ht).congr g3
theorem SR.self {ss sa sh ln lg : Nat → Int32} {cl : Nat → Nat → Int32} (h : SR ss sa sh ln lg cl) (j : Nat) : SR ss sa sh (upd ln j (ln j)) (upd lg j (lg j)) (updF cl j (cl j)) := by
  have e : updF cl j (cl j) = cl := by
    funext t
    by_cases c : t = j
    · subst c; rw [updF_s]
    · rw [updF_n c]
  rw [upd_self, upd_self, e]; exact h
theorem nI_ne_m1 {n : Nat} (h : n < 2 ^ 31) : ¬ nI n = (-1 : Int32) := fun q => by
  have := nI_pos h
  rw [q] at this
  exact this (by decide)
theorem hasCells_e {n : Nat} (hn : n ≤ 60) (i m : Int32) : F_X3_hasCells (nI n) i m = 0 ↔ ¬ F_X6_isBeyond i m.toInt64 (nI n) = 0 := by
  have hb := beyond_iff (i := i) (a := nI n) (n := m.toInt64) (by rw [l_ti]; have := Int32.le_toInt m; omega) (by rw [l_ti]; have := Int32.toInt_lt m; omega)
  rw [hb, l_ti, nI_toInt (by omega), F_X3_hasCells]
  have g1 := zl_lt (x := i) (k := 0) (z := 0) (by decide)
  have g2 := zl_gt (x := i) (k := nI n) (z := n) (nI_toInt (by omega))
  have g3 := zl_lt (x := m) (k := 0) (z := 0) (by decide)
  by_cases c1 : i < 0
  · rw [if_pos c1]; have := g1.mp c1; exact ⟨fun _ => by omega, fun _ => rfl⟩
  rw [if_neg c1]
  have d1 := mt g1.mpr c1
  by_cases c2 : nI n < i
  · rw [if_pos c2]; have := g2.mp c2; exact ⟨fun _ q => by rw [l_ti] at hb; omega, fun _ => rfl⟩
  rw [if_neg c2]
  have d2 := mt g2.mpr c2
  by_cases c3 : m < 0
  · rw [if_pos c3]; have := g3.mp c3; exact ⟨fun _ => by omega, fun _ => rfl⟩
  rw [if_neg c3, ite01]
  have d3 := mt g3.mpr c3
  obtain ⟨x, hx1, hx2⟩ := nI_of c1
  rw [hx2, nI_toInt hx1] at d2
  rw [hx2, nI_toInt hx1, pk_sub (by omega), Int32.lt_iff_toInt_lt, nI_toInt (by omega)]
  have : x ≤ n := by omega
  omega
theorem in_cell {n : Nat} (hn : n ≤ 60) (i : Int32) : F_X6_in i.toInt64 (0 : Int64) ((nI n).toInt64 - (1 : Int64)) = 0 ↔ F_X3_hasCells (nI n) i 1 = 0 := by
  rw [hasCells_e hn, beyond_iff (by decide) (by decide), in_l0 i 0 ((nI n).toInt64 - 1) 0 ((n : Int) - 1) (by decide) (by rw [l_ti1, nI_toInt (by omega)]), nI_toInt (by omega), show ((1 : Int32).toInt64).toInt = 1 by decide]
  omega
theorem hasCells_of {n : Nat} (hn : n ≤ 60) {i : Int32} (h : ¬ F_X3_hasCells (nI n) i 1 = 0) : ∃ b : Nat, b < n ∧ i = nI b := by
  have h2 : F_X6_isBeyond i (1 : Int32).toInt64 (nI n) = 0 := Classical.byContradiction (fun q => h ((hasCells_e hn i 1).mpr q))
  obtain ⟨x, y, e1, e2, e3⟩ := beyond_in (by rw [nI_toInt (by omega)]; omega) h2
  have h3 := (beyond_iff (by decide) (by decide)).mp h2
  rw [e1, nI_toInt (by omega), nI_toInt (by omega), show ((1 : Int32).toInt64).toInt = 1 by decide] at h3
  exact ⟨x, by omega, e1⟩
variable {ss sa sh : Nat → Int32} {ln lg : Int32} {cl : Nat → Int32} {j : Nat}
theorem begin_l (la n : Int32) : ∀ (d x : Nat) (cl : Nat → Int32), x ≤ 60 → 60 < x + d → ∃ cl' : Nat → Int32, F_X3_begin_l21 (F_X3_begin_k21 la n) d (nI x) cl = F_X3_begin_k21 la n (nI 60) cl' ∧ (∀ i, x ≤ i → i < 60 → cl' i = 0) := by
  intro d
  induction d with
  | zero => intro x cl h1 h2; omega
  | succ d ih =>
    intro x cl h1 h2
    rw [F_X3_begin_l21]
    by_cases c : (60 : Int32) ≤ nI x
    · have : 60 ≤ x := by rw [zl_ge (z := 60) (by decide), nI_toInt (by omega)] at c; omega
      have ex : x = 60 := by omega
      subst ex
      rw [if_pos c]
      exact ⟨cl, rfl, fun i h3 h4 => by omega⟩
    · have hx : x < 60 := by
        have : ¬ (60 : Int) ≤ x := fun q => c (by rw [zl_ge (z := 60) (by decide), nI_toInt (by omega)]; exact q)
        omega
      rw [if_neg c, nI_1, show (nI x).toNatClampNeg = x from nI_clamp (by omega)]
      have keep : ∀ (d y : Nat) (cl : Nat → Int32), y ≤ 60 → 60 < y + d → ∃ cl' : Nat → Int32, F_X3_begin_l21 (F_X3_begin_k21 la n) d (nI y) cl = F_X3_begin_k21 la n (nI 60) cl' ∧ (∀ i, y ≤ i → i < 60 → cl' i = 0) ∧ ∀ i, i < y → cl' i = cl i := by
        intro d
        induction d with
        | zero => intro y cl h1 h2; omega
        | succ d ih2 =>
          intro y cl h1 h2
          rw [F_X3_begin_l21]
          by_cases c : (60 : Int32) ≤ nI y
          · have : 60 ≤ y := by rw [zl_ge (z := 60) (by decide), nI_toInt (by omega)] at c; omega
            have ex : y = 60 := by omega
            subst ex
            rw [if_pos c]
            exact ⟨cl, rfl, fun i h3 h4 => by omega, fun _ _ => rfl⟩
          · have hy : y < 60 := by
              have : ¬ (60 : Int) ≤ y := fun q => c (by rw [zl_ge (z := 60) (by decide), nI_toInt (by omega)]; exact q)
              omega
            rw [if_neg c, nI_1, show (nI y).toNatClampNeg = y from nI_clamp (by omega)]
            obtain ⟨c', g1, g2, g3⟩ := ih2 (y + 1) (upd cl y 0) (by omega) (by omega)
            refine ⟨c', g1, fun i h3 h4 => ?_, fun i h3 => ?_⟩
            · rcases (by omega : i = y ∨ y + 1 ≤ i) with q | q
              · subst q; rw [g3 i (by omega), pk_us]
              · exact g2 i q h4
            · rw [g3 i (by omega), pk_un (by omega)]
      obtain ⟨c', g1, g2, g3⟩ := keep d (x + 1) (upd cl x 0) (by omega) (by omega)
      refine ⟨c', g1, fun i h3 h4 => ?_⟩
      rcases (by omega : i = x ∨ x + 1 ≤ i) with q | q
      · subst q; rw [g3 i (by omega), pk_us]
      · exact g2 i q h4
theorem zero_l {ss sa : Nat → Int32} {k la n : Int32} {N : Nat} (hk : k = nI j) (hj : j < 4) (hn : n = nI N) (hN : N ≤ 60) : ∀ (d x : Nat) (sh : Nat → Int32), x ≤ N → N < x + d → ∃ sh' : Nat → Int32, F_X6_sheet_l65 k n (F_X6_sheet_k65 ss sa k la n) d (nI x) sh = F_X6_sheet_k65 ss sa k la n (nI N) sh' ∧ (∀ i, x ≤ i → i < N → sh' (60 * j + i) = 0) ∧ ∀ t, (∀ i, x ≤ i → i < N → t ≠ 60 * j + i) → sh' t = sh t := by
  intro d
  induction d with
  | zero => intro x sh h1 h2; omega
  | succ d ih =>
    intro x sh h1 h2
    rw [F_X6_sheet_l65]
    by_cases c : n ≤ nI x
    · have : N ≤ x := by rw [hn] at c; exact (nI_leI (by omega) (by omega)).mp c
      have ex : x = N := by omega
      subst ex
      rw [if_pos c]
      exact ⟨sh, rfl, fun i h3 h4 => by omega, fun _ _ => rfl⟩
    · have hx : x < N := by
        have : ¬ N ≤ x := fun q => c (by rw [hn]; exact nI_le q (by omega))
        omega
      have ei : ((60 : Int32) * k + nI x).toNatClampNeg = 60 * j + x := by rw [sheet_e hk rfl]; exact nI_clamp (by omega)
      rw [if_neg c, nI_1, ei]
      obtain ⟨s', g1, g2, g3⟩ := ih (x + 1) (upd sh (60 * j + x) 0) (by omega) (by omega)
      refine ⟨s', g1, fun i h3 h4 => ?_, fun t ht => ?_⟩
      · rcases (by omega : i = x ∨ x + 1 ≤ i) with q | q
        · subst q; rw [g3 _ (fun i' h5 h6 => by omega), pk_us]
        · exact g2 i q h4
      · rw [g3 t (fun i h5 h6 => ht i (by omega) h6), pk_un (ht x (Nat.le_refl x) hx)]
theorem lane_of {la : Int32} (h : ¬ F_X5_isLane la = 0) : ∃ a : Nat, a ≤ 2 ∧ la = nI a := by
  have h2 : ¬ (la.toInt < 0 ∨ 3 - 1 < la.toInt) := fun q => h (by rw [F_X5_isLane]; exact (isX_in la 3 3 (by decide)).mpr q)
  obtain ⟨a, h3, h4⟩ := nI_of (x := la) (fun q => by have := (zl_lt (z := 0) (by decide)).mp q; omega)
  rw [h4, nI_toInt h3] at h2
  exact ⟨a, by omega, h4⟩
/-- a change of sheet j on both sides -/
def stR (ss sa sh ss' sa' sh' : Nat → Int32) (j : Nat) (ln lg : Int32) (cl : Nat → Int32) : Prop := shR (ss' j) (sa' j) (fun i => sh' (60 * j + i)) ln lg cl ∧ ∀ t, t < 4 → t ≠ j → ss' t = ss t ∧ sa' t = sa t ∧ ∀ i, i < 60 → sh' (60 * t + i) = sh (60 * t + i)
theorem stR.rf (h : shR (ss j) (sa j) (fun i => sh (60 * j + i)) ln lg cl) : stR ss sa sh ss sa sh j ln lg cl := ⟨h, fun _ _ _ => ⟨rfl, rfl, fun _ _ => rfl⟩⟩
theorem nS {k : Int32} (hk : k = nI j) (hj : j < 4) : ¬ F_X5_isSheet k = 0 ∧ F_X6_noSheet k = 0 ∧ k.toNatClampNeg = j := by
  have h : ¬ F_X5_isSheet k = 0 := by
    rw [F_X5_isSheet]
    refine mt (isX_in k 4 4 (by decide)).mp ?_
    rw [hk, nI_toInt (by omega)]; omega
  exact ⟨h, Classical.byContradiction (fun q => h ((isSheet_in k).mpr q)), by rw [hk]; exact nI_clamp (by omega)⟩
theorem st_sheet {k la n : Int32} (hk : k = nI j) (hj : j < 4) (h : shR (ss j) (sa j) (fun i => sh (60 * j + i)) ln lg cl) :
    (F_X5_sheet ln lg cl k la n).1 = (F_X6_sheet ss sa sh k la n).1 ∧ (F_X5_sheet ln lg cl k la n).2.1 = (F_X6_sheet ss sa sh k la n).2.1 ∧ stR ss sa sh (F_X6_sheet ss sa sh k la n).2.2.1 (F_X6_sheet ss sa sh k la n).2.2.2.1 (F_X6_sheet ss sa sh k la n).2.2.2.2 j (F_X5_sheet ln lg cl k la n).2.2.1 (F_X5_sheet ln lg cl k la n).2.2.2.1 (F_X5_sheet ln lg cl k la n).2.2.2.2 := by
  obtain ⟨n1, n2, ek⟩ := nS hk hj
  rw [F_X5_sheet, F_X6_sheet, if_neg n1, if_pos n2]
  by_cases c1 : F_X5_isLane la = 0
  · rw [if_pos c1, if_pos ((isLane_in la).mp c1)]; exact ⟨rfl, rfl, stR.rf h⟩
  rw [if_neg c1, if_neg (mt (isLane_in la).mpr c1)]
  by_cases c2 : n ≤ 60
  case neg => rw [if_neg c2, if_neg c2]; exact ⟨rfl, rfl, stR.rf h⟩
  rw [if_pos c2, if_pos c2]
  by_cases c3 : 0 ≤ n
  case neg => rw [if_neg c3, if_neg c3]; exact ⟨rfl, rfl, stR.rf h⟩
  rw [if_pos c3, if_pos c3]
  obtain ⟨N, hN, hn⟩ := nI_of2 (M := 60) (n := 60) (by decide) (Int32.not_lt.mpr c3) c2
  obtain ⟨a, ha, hla⟩ := lane_of c1
  obtain ⟨cl', g1, g2⟩ := begin_l la n 61 0 cl (by omega) (by omega)
  obtain ⟨sh', g3, g4, g5⟩ := zero_l (ss := ss) (sa := sa) (la := la) hk hj hn hN 61 0 sh (by omega) (by omega)
  have e1 : F_X3_begin cl la n = F_X3_begin_k21 la n (nI 60) cl' := g1
  have e2 : F_X6_sheet_l65 k n (F_X6_sheet_k65 ss sa k la n) 61 0 sh = F_X6_sheet_k65 ss sa k la n (nI N) sh' := g3
  rw [e1, e2, F_X3_begin_k21, F_X6_sheet_k65, ek]
  refine ⟨rfl, rfl, ⟨Or.inr ⟨N, a, hN, ha, ?_, ?_, ?_, hla, fun i hi => ?_⟩, fun t ht hne => ⟨pk_un hne, pk_un hne, fun i hi => g5 _ (fun i' h1 h2 => by omega)⟩⟩⟩
  · exact pk_us.trans hn
  · have n60 : ¬ (60 : Int32) < n := Int32.not_lt.mpr c2
    show (if 0 < (if (60 : Int32) < n then 60 else n) then (if (60 : Int32) < n then 60 else n) else 0) = nI N
    rw [if_neg n60, hn]
    by_cases z : 0 < nI N
    · rw [if_pos z]
    · rw [if_neg z]
      rcases Nat.eq_zero_or_pos N with q | q
      · rw [q]; rfl
      · exact absurd ((nI_gt0 (by omega)).mpr q) z
  · exact pk_us.trans hla
  · show cl' i = sh' (60 * j + i)
    rw [g2 i (Nat.zero_le _) (by omega), g4 i (Nat.zero_le _) hi]
theorem hasRow_e : F_X3_hasRow ln = 0 ↔ ln = -1 := by rw [F_X3_hasRow, ite01]
theorem st_lose {k : Int32} (hk : k = nI j) (hj : j < 4) (h : shR (ss j) (sa j) (fun i => sh (60 * j + i)) ln lg cl) :
    (F_X5_lose ln lg k).1 = (F_X6_lose ss k).1 ∧ stR ss sa sh (F_X6_lose ss k).2 sa sh j (F_X5_lose ln lg k).2.1 (F_X5_lose ln lg k).2.2 cl := by
  obtain ⟨n1, n2, ek⟩ := nS hk hj
  have fin : stR ss sa sh (upd ss j (-1)) sa sh j F_X3_end.1 F_X3_end.2 cl := ⟨Or.inl ⟨by rw [pk_us]; decide, rfl, rfl⟩, fun t ht hne => ⟨pk_un hne, rfl, fun _ _ => rfl⟩⟩
  rw [F_X5_lose, F_X6_lose, if_neg n1, if_pos n2, ek]
  rcases h with ⟨h1, h2, h3⟩ | ⟨n, a, h1, h2, h3, h4, h5, h6, h7⟩
  · rw [if_pos (hasRow_e.mpr h2), if_neg (Int32.not_le.mpr h1)]; exact ⟨rfl, fin⟩
  · have r : ¬ F_X3_hasRow ln = 0 := fun q => nI_ne_m1 (by omega) (h6.symm.trans (hasRow_e.mp q))
    have p : 0 ≤ ss j := by rw [h3]; exact nI_pos' (by omega)
    rw [if_neg r, if_pos p]; exact ⟨rfl, fin⟩
theorem noCell_e {k : Int32} (ek : k.toNatClampNeg = j) {n : Nat} (hn : n ≤ 60) (hs : ss j = nI n) (i : Int32) : F_X6_noCell ss k i = if F_X3_hasCells (nI n) i 1 = 0 then 3 else 0 := by
  rw [F_X6_noCell, ek, hs, if_pos (nI_pos' (by omega))]
  by_cases c : F_X3_hasCells (nI n) i 1 = 0
  · rw [if_pos c, if_pos ((in_cell hn i).mpr c)]
  · rw [if_neg c, if_neg (mt (in_cell hn i).mp c)]
theorem noCell_0 {k : Int32} (ek : k.toNatClampNeg = j) (hs : ss j < 0) (i : Int32) : F_X6_noCell ss k i = 1 := by
  rw [F_X6_noCell, ek, if_neg (Int32.not_le.mpr hs)]
theorem st_put {k i v : Int32} (hk : k = nI j) (hj : j < 4) (h : shR (ss j) (sa j) (fun i => sh (60 * j + i)) ln lg cl) :
    (F_X5_put ln lg cl k i v).1 = (F_X6_put ss sa sh k i v).1 ∧ (F_X5_put ln lg cl k i v).2.1 = (F_X6_put ss sa sh k i v).2.1 ∧ stR ss sa sh ss sa (F_X6_put ss sa sh k i v).2.2 j ln lg (F_X5_put ln lg cl k i v).2.2 := by
  obtain ⟨n1, n2, ek⟩ := nS hk hj
  rw [F_X5_put, F_X6_put, if_neg n1, if_pos n2, ek]
  rcases h with ⟨h1, h2, h3⟩ | ⟨n, a, h1, h2, h3, h4, h5, h6, h7⟩
  · rw [if_pos (hasRow_e.mpr h2), noCell_0 ek h1, if_neg (show ¬ (1 : Int32) ≤ 0 by decide)]; exact ⟨rfl, rfl, stR.rf (Or.inl ⟨h1, h2, h3⟩)⟩
  · have r : ¬ F_X3_hasRow ln = 0 := fun q => nI_ne_m1 (by omega) (h6.symm.trans (hasRow_e.mp q))
    rw [if_neg r, noCell_e ek h1 h3, h4]
    by_cases c : F_X3_hasCells (nI n) i 1 = 0
    · rw [if_pos c, if_pos c, if_neg (show ¬ (3 : Int32) ≤ 0 by decide)]; exact ⟨rfl, rfl, stR.rf (Or.inr ⟨n, a, h1, h2, h3, rfl, h5, h6, h7⟩)⟩
    · obtain ⟨b, hb, rfl⟩ := hasCells_of h1 c
      have ei : ((60 : Int32) * k + nI b).toNatClampNeg = 60 * j + b := by rw [sheet_e hk rfl]; exact nI_clamp (by omega)
      rw [if_neg c, if_neg c, if_pos (Int32.le_refl 0), ei, F_X3_set, if_neg c, show (nI b).toNatClampNeg = b from nI_clamp (by omega), h5, h6]
      have fin : ∀ x : Int32, stR ss sa sh ss sa (upd sh (60 * j + b) x) j (nI a) (nI n) (upd cl b x) := fun x => ⟨Or.inr ⟨n, a, h1, h2, h3, rfl, h5, rfl, fun i hi => by
        show upd cl b x i = upd sh (60 * j + b) x (60 * j + i)
        by_cases q : i = b
        · rw [q, pk_us, pk_us]
        · rw [pk_un q, pk_un (by omega)]; exact h7 i hi⟩, fun t ht hne => ⟨rfl, rfl, fun i hi => pk_un (by omega)⟩⟩
      by_cases c5 : nI a = 0
      · rw [if_pos c5, if_pos c5]; exact ⟨rfl, rfl, fin _⟩
      rw [if_neg c5, if_neg c5]
      by_cases c6 : nI a = 1
      · rw [if_pos c6, if_pos c6]; exact ⟨rfl, rfl, fin _⟩
      rw [if_neg c6, if_neg c6]; exact ⟨rfl, rfl, fin _⟩
theorem st_cell {k i la : Int32} (hk : k = nI j) (hj : j < 4) (h : shR (ss j) (sa j) (fun i => sh (60 * j + i)) ln lg cl) :
    F_X5_cell ln lg cl k i la = F_X6_cell ss sa sh k i la := by
  obtain ⟨n1, n2, ek⟩ := nS hk hj
  rw [F_X5_cell, F_X6_cell, if_neg n1, if_pos n2, ek]
  by_cases c1 : F_X5_isLane la = 0
  · rw [if_pos c1, if_pos ((isLane_in la).mp c1)]; rfl
  rw [if_neg c1, if_neg (mt (isLane_in la).mpr c1), F_X3_faultOfCells, F_X3_faultAs]
  rcases h with ⟨h1, h2, h3⟩ | ⟨n, a, h1, h2, h3, h4, h5, h6, h7⟩
  · rw [if_pos (hasRow_e.mpr h2), if_neg (show ¬ (1 : Int32) = 0 by decide), if_neg (show ¬ (1 : Int32) = 0 by decide), if_pos h1, noCell_0 ek h1, if_neg (show ¬ (1 : Int32) ≤ 0 by decide)]; rfl
  · have r : ¬ F_X3_hasRow ln = 0 := fun q => nI_ne_m1 (by omega) (h6.symm.trans (hasRow_e.mp q))
    have p : ¬ ss j < 0 := by rw [h3]; exact nI_pos (by omega)
    rw [if_neg r, if_neg p, h5, h6]
    by_cases c2 : nI a = la
    case neg => rw [if_neg c2, if_neg (show ¬ (2 : Int32) = 0 by decide), if_neg (show ¬ (2 : Int32) = 0 by decide), if_neg c2]; rfl
    rw [if_pos c2, if_pos rfl, if_pos c2, noCell_e ek h1 h3, h4]
    by_cases c : F_X3_hasCells (nI n) i 1 = 0
    · rw [if_pos c, if_neg (show ¬ (3 : Int32) = 0 by decide), if_neg (show ¬ (3 : Int32) ≤ 0 by decide)]; rfl
    · have hh := hasCells_of h1 c
      obtain ⟨b, hb, rfl⟩ := hh
      have ei : ((60 : Int32) * k + nI b).toNatClampNeg = 60 * j + b := by rw [sheet_e hk rfl]; exact nI_clamp (by omega)
      rw [if_neg c, if_pos rfl, if_pos (Int32.le_refl 0), ei, F_X3_at, if_neg c, show (nI b).toNatClampNeg = b from nI_clamp (by omega), h7 b hb]
end Q5
