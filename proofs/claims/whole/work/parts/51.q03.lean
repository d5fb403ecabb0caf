section Q3
variable {pn sl dr nw rc tr : Int32} {kd bd yr rp rw' : Nat → Int32} {np nr : Nat}
theorem j_of (hpn : pn = nI np) (hnp : np ≤ 9) {j : Nat} (hj : j ≤ np + 1) : pn ≤ nI j ↔ np ≤ j := by
  rw [hpn]; exact nI_leI (by omega) (by omega)
theorem wished_l (hpn : pn = nI np) (hnp : np ≤ 9) (v : Int32) : ∀ (d j : Nat) (x2 : Int32), j ≤ np → F_X5_wished_l24 pn sl dr kd bd yr v F_X5_wished_k24 d x2 (nI j) = F_X6_wished_l29 pn sl dr kd bd yr v F_X6_wished_k29 d x2 (nI j) := by
  intro d
  induction d with
  | zero => intro j x2 _; rfl
  | succ d ih =>
    intro j x2 hj
    rw [F_X5_wished_l24, F_X6_wished_l29]
    by_cases c : pn ≤ nI j
    · rw [if_pos c, if_pos c]; rfl
    · have hjn : j < np := by have := mt (j_of hpn hnp (by omega)).mpr c; omega
      rw [if_neg c, if_neg c, wishAt_eq (isPin_of hpn hnp hjn), nI_1]
      by_cases c2 : F_X6_wishOf sl dr kd bd yr (nI j) = v
      · rw [if_pos c2, if_pos c2]; exact ih _ _ (by omega)
      · rw [if_neg c2, if_neg c2, Int32.or_zero]; exact ih _ _ (by omega)
theorem st_wished (hpn : pn = nI np) (hnp : np ≤ 9) (v : Int32) : F_X5_wished pn sl dr kd bd yr v = F_X6_wished pn sl dr kd bd yr v := by
  rw [F_X5_wished, F_X6_wished]
  by_cases c0 : pn = 0
  · rw [if_pos c0, if_pos ((hasWell_0 hpn hnp).mpr c0)]
  rw [if_neg c0, if_neg (mt (hasWell_0 hpn hnp).mp c0)]
  by_cases c : F_X5_isWish v = 0
  · rw [if_pos c, if_pos ((isWish_in v).mp c)]
  rw [if_neg c, if_neg (mt (isWish_in v).mpr c)]
  exact wished_l hpn hnp v 10 0 0 (by omega)
theorem in01 (w : Int32) : F_X6_in w.toInt64 (0 : Int64) (1 : Int64) = 0 ↔ ¬ w = 0 ∧ ¬ w = 1 := by
  rw [in_l0 w 0 1 0 1 (by decide) (by decide), zl_eq (k := 0) (z := 0) (by decide), zl_eq (k := 1) (z := 1) (by decide)]
  omega
theorem quiet_l (hpn : pn = nI np) (hnp : np ≤ 9) (w : Int32) : ∀ (d j : Nat) (x2 x3 x4 : Int32), j ≤ np + 1 → F_X5_quiet_l32 pn nw yr (F_X5_quiet_k32 w) d x2 x3 x4 (nI j) = F_X6_quiet_l35 pn nw yr (F_X6_quiet_k35 w) d x2 x3 x4 (nI j) := by
  intro d
  induction d with
  | zero => intro j x2 x3 x4 _; rfl
  | succ d ih =>
    intro j x2 x3 x4 hj
    rw [F_X5_quiet_l32, F_X6_quiet_l35]
    by_cases c : pn < nI j
    · rw [if_pos c, if_pos c]; rfl
    · have hjn : j ≤ np := by
        have : ¬ np < j := fun q => c (by rw [hpn]; exact (nI_ltI (by omega) (by omega)).mpr q)
        omega
      rw [if_neg c, if_neg c, nI_1]
      by_cases c2 : nI j = pn
      · have c3 : pn ≤ nI j := by rw [c2]; exact Int32.le_refl _
        rw [if_pos c3, if_pos c2]
        by_cases c4 : nw - x4 ≤ x2
        · rw [if_pos c4, if_pos c4]; exact ih _ _ _ _ (by omega)
        · rw [if_neg c4, if_neg c4]; exact ih _ _ _ _ (by omega)
      · have hlt : j < np := by
          rcases Nat.lt_or_ge j np with q | q
          · exact q
          · exact absurd (by rw [hpn, show j = np by omega]) c2
        have c3 : ¬ pn ≤ nI j := fun q => by have := (j_of hpn hnp (by omega)).mp q; omega
        rw [if_neg c3, if_neg c2, F_X4_yearAt, if_neg (isPin_of hpn hnp hlt)]
        by_cases c4 : yr (nI j).toNatClampNeg - x4 ≤ x2
        · rw [if_pos c4, if_pos c4]; exact ih _ _ _ _ (by omega)
        · rw [if_neg c4, if_neg c4]; exact ih _ _ _ _ (by omega)
theorem st_quiet (hpn : pn = nI np) (hnp : np ≤ 9) (hy : 0 < np → ∃ y : Nat, y < 2 ^ 31 ∧ yr 0 = nI y) (w : Int32) : F_X5_quiet pn nw yr w = F_X6_quiet pn nw yr w := by
  rw [F_X5_quiet, F_X6_quiet]
  by_cases c0 : pn = 0
  · rw [if_pos c0, if_pos ((hasWell_0 hpn hnp).mpr c0)]
  rw [if_neg c0, if_neg (mt (hasWell_0 hpn hnp).mp c0)]
  have hp := z_pos hpn c0
  obtain ⟨y, hy1, hy2⟩ := hy hp
  have main : F_X5_quiet_j22 pn nw yr w = F_X6_quiet_l35 pn nw yr (F_X6_quiet_k35 w) 11 (-9) (-9) 0 0 := by
    rw [F_X5_quiet_j22, F_X5_quiet_l32, F_X6_quiet_l35, show (0 : Int32) = nI 0 from rfl]
    have n1 : ¬ pn < nI 0 := by rw [hpn]; exact nI_nlt (Nat.zero_le _) (by omega)
    have n2 : ¬ pn ≤ nI 0 := fun q => by have := (j_of hpn hnp (by omega)).mp q; omega
    have n3 : ¬ nI 0 = pn := fun q => c0 (q.symm.trans rfl)
    rw [if_neg n1, if_neg n1, if_neg n2, if_neg n3, F_X4_yearAt, if_neg (isPin_of hpn hnp hp), show (nI 0).toNatClampNeg = 0 from rfl, hy2, show nI y - nI 0 = nI y from Int32.sub_zero _]
    have n4 : ¬ nI y ≤ (-1 : Int32) := by rw [zl_le (z := -1) (by decide), nI_toInt hy1]; omega
    have n5 : ¬ nI y ≤ (-9 : Int32) := by rw [zl_le (z := -9) (by decide), nI_toInt hy1]; omega
    rw [if_neg n4, if_neg n5, nI_1]
    exact quiet_l hpn hnp w 10 1 _ _ _ (by omega)
  by_cases c1 : w = 0
  · rw [if_pos c1, if_neg (fun q => ((in01 w).mp q).1 c1)]; exact main
  · rw [if_neg c1]
    by_cases c2 : w = 1
    · rw [if_pos c2, if_neg (fun q => ((in01 w).mp q).2 c2)]; exact main
    · rw [if_neg c2, if_pos ((in01 w).mpr ⟨c1, c2⟩)]
theorem run_l (hpn : pn = nI np) (hnp : np ≤ 9) (w : Int32) : ∀ (d j f : Nat) (x2 x3 : Int32), 1 ≤ j → j ≤ np → f < j → F_X6_wishOf sl dr kd bd yr (nI f) = F_X6_wishOf sl dr kd bd yr (nI (j - 1)) → F_X5_run_l32 pn sl dr kd bd yr (F_X5_run_k32 w) d x2 x3 (nI f) (nI j) = F_X6_run_l34 pn sl dr kd bd yr (F_X6_run_k34 w) d x2 x3 (nI f) (nI j) := by
  intro d
  induction d with
  | zero => intro j f x2 x3 _ _ _ _; rfl
  | succ d ih =>
    intro j f x2 x3 h1 hj hf hw
    rw [F_X5_run_l32, F_X6_run_l34]
    by_cases c : pn ≤ nI j
    · rw [if_pos c, if_pos c]; rfl
    · have hjn : j < np := by have := mt (j_of hpn hnp (by omega)).mpr c; omega
      have n0 : ¬ nI j ≤ 0 := nI_nle h1 (by omega)
      have e1 : nI j - 1 = nI (j - 1) := z_sub1 rfl h1
      rw [if_neg c, if_neg c, wishAt_eq (isPin_of hpn hnp hjn), wishAt_eq (isPin_of hpn hnp (by omega)), if_neg n0, e1, ← hw, nI_1]
      by_cases c2 : F_X6_wishOf sl dr kd bd yr (nI j) = F_X6_wishOf sl dr kd bd yr (nI f)
      · rw [if_pos c2, if_pos c2]
        by_cases c3 : nI j - nI f + 1 ≤ x2
        · rw [if_pos c3, if_pos c3]; exact ih _ _ _ _ (by omega) (by omega) (by omega) (by rw [Nat.add_sub_cancel]; exact c2.symm)
        · rw [if_neg c3, if_neg c3]; exact ih _ _ _ _ (by omega) (by omega) (by omega) (by rw [Nat.add_sub_cancel]; exact c2.symm)
      · rw [if_neg c2, if_neg c2]
        by_cases c3 : nI j - nI j + 1 ≤ x2
        · rw [if_pos c3, if_pos c3]; exact ih _ _ _ _ (by omega) (by omega) (by omega) (by rw [Nat.add_sub_cancel])
        · rw [if_neg c3, if_neg c3]; exact ih _ _ _ _ (by omega) (by omega) (by omega) (by rw [Nat.add_sub_cancel])
theorem st_run (hpn : pn = nI np) (hnp : np ≤ 9) (w : Int32) : F_X5_run pn sl dr kd bd yr w = F_X6_run pn sl dr kd bd yr w := by
  rw [F_X5_run, F_X6_run]
  by_cases c0 : pn = 0
  · rw [if_pos c0, if_pos ((hasWell_0 hpn hnp).mpr c0)]
  rw [if_neg c0, if_neg (mt (hasWell_0 hpn hnp).mp c0)]
  have hp := z_pos hpn c0
  have main : F_X5_run_j22 pn sl dr kd bd yr w = F_X6_run_l34 pn sl dr kd bd yr (F_X6_run_k34 w) 10 0 (-9) 0 0 := by
    rw [F_X5_run_j22, F_X5_run_l32, F_X6_run_l34]
    have n2 : ¬ pn ≤ 0 := fun q => by have := (j_of hpn hnp (j := 0) (by omega)).mp q; omega
    have n3 : (0 : Int32) ≤ 0 := Int32.le_refl _
    have n4 : ¬ (0 : Int32) - 0 + 1 ≤ 0 := by decide
    rw [if_neg n2, if_neg n2, if_pos rfl, if_pos n3, if_neg n4, if_neg n4]
    exact run_l hpn hnp w 9 1 0 _ _ (by omega) (by omega) (by omega) rfl
  by_cases c1 : w = 0
  · rw [if_pos c1, if_neg (fun q => ((in01 w).mp q).1 c1)]; exact main
  · rw [if_neg c1]
    by_cases c2 : w = 1
    · rw [if_pos c2, if_neg (fun q => ((in01 w).mp q).2 c2)]; exact main
    · rw [if_neg c2, if_pos ((in01 w).mpr ⟨c1, c2⟩)]
def gFirst (P : Nat → Prop) [DecidablePred P] : Nat → Nat → Int32 → Int32
  | 0, _, x => x
  | n + 1, j, x => if P j then nI j else gFirst P n (j + 1) x
theorem gFirst_snoc (P : Nat → Prop) [DecidablePred P] : ∀ (n j : Nat) (x : Int32), gFirst P (n + 1) j x = gFirst P n j (if P (j + n) then nI (j + n) else x) := by
  intro n
  induction n with
  | zero => intro j x; rfl
  | succ n ih =>
    intro j x
    rw [gFirst, ih (j + 1) x, show j + 1 + n = j + (n + 1) by omega]
    rfl
theorem shape_a (k v : Int32) : ∀ (n j d : Nat), j + n = 10 → n < d → F_X5_shape_l29 sl dr nw k v F_X5_shape_k29 d (nI j) = gFirst (fun b => F_X6_wishBy sl dr (F_X6_turnBy k (nI b)) nw = v) n j (-9) := by
  intro n
  induction n with
  | zero =>
    intro j d hj hd
    obtain ⟨d', rfl⟩ : ∃ d', d = d' + 1 := ⟨d - 1, by omega⟩
    have c : (10 : Int32) ≤ nI j := by rw [show j = 10 by omega]; decide
    rw [F_X5_shape_l29, if_pos c]; rfl
  | succ n ih =>
    intro j d hj hd
    obtain ⟨d', rfl⟩ : ∃ d', d = d' + 1 := ⟨d - 1, by omega⟩
    have c : ¬ (10 : Int32) ≤ nI j := by rw [zl_ge (z := 10) (by decide), nI_toInt (by omega)]; omega
    rw [F_X5_shape_l29, if_neg c, wishNow_eq, gFirst, nI_1]
    by_cases c2 : F_X6_wishBy sl dr (F_X6_turnBy k (nI j)) nw = v
    · rw [if_pos c2, if_pos c2]
    · rw [if_neg c2, if_neg c2]; exact ih _ _ (by omega) (by omega)
theorem shape_b (k v : Int32) : ∀ (a d : Nat) (x : Int32), a ≤ 10 → a < d → F_X6_shape_l44 sl dr nw k v F_X6_shape_k44 d x (nI a - 1) = gFirst (fun b => F_X6_wishBy sl dr (F_X6_turnBy k (nI b)) nw = v) a 0 x := by
  intro a
  induction a with
  | zero =>
    intro d x ha hd
    obtain ⟨d', rfl⟩ : ∃ d', d = d' + 1 := ⟨d - 1, by omega⟩
    have c : nI 0 - 1 < 0 := by decide
    rw [F_X6_shape_l44, if_pos c]; rfl
  | succ a ih =>
    intro d x ha hd
    obtain ⟨d', rfl⟩ : ∃ d', d = d' + 1 := ⟨d - 1, by omega⟩
    have e : nI (a + 1) - 1 = nI a := nI_pred a
    have e2 : nI a + (-1 : Int32) = nI a - 1 := by rw [Int32.sub_eq_add_neg]
    have c : ¬ nI a < 0 := nI_pos (by omega)
    rw [F_X6_shape_l44, e, if_neg c, e2, gFirst_snoc, Nat.zero_add]
    by_cases c2 : F_X6_wishBy sl dr (F_X6_turnBy k (nI a)) nw = v
    · rw [if_pos c2, if_pos c2]; exact ih _ _ (by omega) (by omega)
    · rw [if_neg c2, if_neg c2]; exact ih _ _ (by omega) (by omega)
theorem st_shape (hpn : pn = nI np) (hnp : np ≤ 9) (k v : Int32) : F_X5_shape pn sl dr nw k v = F_X6_shape pn sl dr nw k v := by
  rw [F_X5_shape, F_X6_shape]
  by_cases c0 : pn = 0
  · rw [if_pos c0, if_pos ((hasWell_0 hpn hnp).mpr c0)]
  rw [if_neg c0, if_neg (mt (hasWell_0 hpn hnp).mp c0)]
  by_cases c1 : F_X5_isKind k = 0
  · rw [if_pos c1, if_pos ((isKind_in k).mp c1)]
  rw [if_neg c1, if_neg (mt (isKind_in k).mpr c1)]
  by_cases c : F_X5_isWish v = 0
  · rw [if_pos c, if_pos ((isWish_in v).mp c)]
  rw [if_neg c, if_neg (mt (isWish_in v).mpr c)]
  exact (shape_a k v 10 0 11 (by omega) (by omega)).trans (shape_b k v 10 11 (-9) (by omega) (by omega)).symm
theorem so_0 (rg : Int32) (ko bo : Nat → Int32) : ∀ (d : Nat) (x : Int32), F_X6_areSo_l4 sl dr rg ko bo yr rp rw' F_X6_areSo_k4 d 0 x = 0 := by
  intro d
  induction d with
  | zero => intro x; rfl
  | succ d ih =>
    intro x
    rw [F_X6_areSo_l4]
    by_cases c : rg ≤ x
    · rw [if_pos c]; rfl
    · rw [if_neg c, if_pos rfl]; exact ih _
theorem so_l (hrc : rc = nI nr) (hnr : nr ≤ 8) {k t : Int32} {ko bo : Nat → Int32} (h : ∀ i, i < nr → ((if rp i = k then F_X5_wishOf sl t dr (F_X4_yearAt pn yr (rp i)) else F_X5_wishOf sl (F_X4_turnAt pn kd bd (rp i)) dr (F_X4_yearAt pn yr (rp i))) = F_X6_wishOf sl dr ko bo yr (rp i))) : ∀ (d j : Nat), j ≤ nr → nr < j + d → F_X2_areSoWith_l3 rc rp rw' pn sl dr kd bd yr k t F_X2_areSoWith_k3 d (nI j) = F_X6_areSo_l4 sl dr rc ko bo yr rp rw' F_X6_areSo_k4 d 1 (nI j) := by
  intro d
  induction d with
  | zero => intro j hj hd; omega
  | succ d ih =>
    intro j hj hd
    rw [F_X2_areSoWith_l3, F_X6_areSo_l4]
    by_cases c : rc ≤ nI j
    · rw [if_pos c, if_pos c]; rfl
    · have hjn : j < nr := by
        rcases Nat.lt_or_ge j nr with q | q
        · exact q
        · exact absurd (by rw [hrc]; exact nI_le q (by omega)) c
      have n8 : ¬ (8 : Int32) ≤ nI j := by rw [zl_ge (z := 8) (by decide), nI_toInt (by omega)]; omega
      have ej : (nI j).toNatClampNeg = j := nI_clamp (by omega)
      have n1 : ¬ (1 : Int32) = 0 := by decide
      rw [if_neg c, if_neg c, if_neg n8, if_neg n1, ej, nI_1]
      have hh := h j hjn
      by_cases c1 : rp j = k
      · rw [if_pos c1] at hh
        rw [if_pos c1, hh]
        by_cases c2 : F_X6_wishOf sl dr ko bo yr (rp j) = rw' j
        · rw [if_pos c2, if_pos c2]; exact ih _ (by omega) (by omega)
        · rw [if_neg c2, if_neg c2, so_0]
      · rw [if_neg c1] at hh
        rw [if_neg c1, hh]
        by_cases c2 : F_X6_wishOf sl dr ko bo yr (rp j) = rw' j
        · rw [if_pos c2, if_pos c2]; exact ih _ (by omega) (by omega)
        · rw [if_neg c2, if_neg c2, so_0]
theorem key_l (hrc : rc = nI nr) (hnr : nr ≤ 8) {a b : Int32} (h : ∀ i, i < nr → F_X5_wishOf a (F_X4_turnAt pn kd bd (rp i)) b (F_X4_yearAt pn yr (rp i)) = F_X6_wishOf a b kd bd yr (rp i)) : ∀ (d j : Nat), j ≤ nr → nr < j + d → F_X2_areSoByKey_l3 rc rp rw' pn kd bd yr a b F_X2_areSoByKey_k3 d (nI j) = F_X6_areSo_l4 a b rc kd bd yr rp rw' F_X6_areSo_k4 d 1 (nI j) := by
  intro d
  induction d with
  | zero => intro j hj hd; omega
  | succ d ih =>
    intro j hj hd
    rw [F_X2_areSoByKey_l3, F_X6_areSo_l4]
    by_cases c : rc ≤ nI j
    · rw [if_pos c, if_pos c]; rfl
    · have hjn : j < nr := by
        rcases Nat.lt_or_ge j nr with q | q
        · exact q
        · exact absurd (by rw [hrc]; exact nI_le q (by omega)) c
      have n8 : ¬ (8 : Int32) ≤ nI j := by rw [zl_ge (z := 8) (by decide), nI_toInt (by omega)]; omega
      have ej : (nI j).toNatClampNeg = j := nI_clamp (by omega)
      have n1 : ¬ (1 : Int32) = 0 := by decide
      rw [if_neg c, if_neg c, if_neg n8, if_neg n1, ej, nI_1, h j hjn]
      by_cases c2 : F_X6_wishOf a b kd bd yr (rp j) = rw' j
      · rw [if_pos c2, if_pos c2]; exact ih _ (by omega) (by omega)
      · rw [if_neg c2, if_neg c2, so_0]
theorem upd_upd (f : Nat → Int32) (k : Nat) (a b : Int32) : upd (upd f k a) k b = upd f k b := by
  funext j
  by_cases h : j = k
  · rw [h, pk_us, pk_us]
  · rw [pk_un h, pk_un h, pk_un h]
theorem upd_self (f : Nat → Int32) (k : Nat) : upd f k (f k) = f := by
  funext j
  by_cases h : j = k
  · rw [h, pk_us]
  · rw [pk_un h]
/-- the pins that the readings speak of lie there -/
def rdOK (rp : Nat → Int32) (nr np : Nat) : Prop := ∀ i, i < nr → ∃ p : Nat, p < np ∧ rp i = nI p
theorem turnAt_e (hpn : pn = nI np) (hnp : np ≤ 9) {p : Nat} (hp : p < np) : F_X4_turnAt pn kd bd (nI p) = F_X6_turnBy (kd p) (bd p) := by
  rw [F_X4_turnAt, if_neg (isPin_of hpn hnp hp), turn_eq, show (nI p).toNatClampNeg = p from nI_clamp (by omega)]
theorem yearAt_e (hpn : pn = nI np) (hnp : np ≤ 9) {p : Nat} (hp : p < np) : F_X4_yearAt pn yr (nI p) = yr p := by
  rw [F_X4_yearAt, if_neg (isPin_of hpn hnp hp), show (nI p).toNatClampNeg = p from nI_clamp (by omega)]
theorem wishOf_e {p : Nat} (hp : p < 9) : F_X6_wishOf sl dr kd bd yr (nI p) = F_X6_wishBy sl dr (F_X6_turnBy (kd p) (bd p)) (yr p) := by
  rw [F_X6_wishOf, F_X6_turnOf, show (nI p).toNatClampNeg = p from nI_clamp (by omega)]
theorem bends_l (hpn : pn = nI np) (hnp : np ≤ 9) (hrc : rc = nI nr) (hnr : nr ≤ 8) (hrd : rdOK rp nr np) {k0 : Nat} (hk : k0 < np) : ∀ (d j : Nat) (x2 : Int32) (bo : Nat → Int32), (∃ z, bo = upd bd k0 z) →
    F_X6_bends_l22 sl dr rc kd yr rp rw' (nI k0) (F_X6_bends_k22 bd (nI k0)) d x2 (nI j) bo = (F_X5_bends_l17 pn sl dr kd bd yr rc rp rw' (nI k0) F_X5_bends_k17 d x2 (nI j), bd) := by
  have ek : (nI k0).toNatClampNeg = k0 := nI_clamp (by omega)
  intro d
  induction d with
  | zero =>
    intro j x2 bo hz
    obtain ⟨z, rfl⟩ := hz
    rw [F_X6_bends_l22, F_X5_bends_l17, F_X6_bends_k22, F_X5_bends_k17, ek, upd_upd, upd_self]
  | succ d ih =>
    intro j x2 bo hz
    obtain ⟨z, rfl⟩ := hz
    rw [F_X6_bends_l22, F_X5_bends_l17]
    by_cases c : (10 : Int32) ≤ nI j
    · rw [if_pos c, if_pos c, F_X6_bends_k22, F_X5_bends_k17, ek, upd_upd, upd_self]
    · rw [if_neg c, if_neg c, ek, upd_upd, nI_1]
      have e : F_X2_areSoWith rc rp rw' pn sl dr kd bd yr (nI k0) (F_X5_turnOf (F_X4_kindAt pn kd (nI k0)) (nI j)) = F_X6_areSo sl dr rc kd (upd bd k0 (nI j)) yr rp rw' := by
        rw [F_X2_areSoWith, F_X6_areSo]
        refine so_l hrc hnr (fun i hi => ?_) 9 0 (by omega) (by omega)
        obtain ⟨p, hp, e⟩ := hrd i hi
        rw [e, wishOf_e (by omega), yearAt_e hpn hnp hp]
        by_cases c1 : nI p = nI k0
        · have e2 : p = k0 := nI_inj (by omega) (by omega) c1
          rw [if_pos c1, F_X4_kindAt, if_neg (isPin_of hpn hnp hk), ek, turn_eq, e2, pk_us]; rfl
        · have e2 : p ≠ k0 := fun q => c1 (by rw [q])
          rw [if_neg c1, turnAt_e hpn hnp hp, pk_un e2]; rfl
      rw [e]
      by_cases c2 : F_X6_areSo sl dr rc kd (upd bd k0 (nI j)) yr rp rw' = 0
      · rw [if_pos c2, if_pos c2, Int32.or_zero]; exact ih _ _ _ ⟨_, rfl⟩
      · rw [if_neg c2, if_neg c2]; exact ih _ _ _ ⟨_, rfl⟩
theorem st_bends (hpn : pn = nI np) (hnp : np ≤ 9) (hrc : rc = nI nr) (hnr : nr ≤ 8) (hrd : rdOK rp nr np) (k : Int32) : F_X6_bends pn sl dr rc kd bd yr rp rw' k = (F_X5_bends pn sl dr kd bd yr rc rp rw' k, bd) := by
  rw [F_X5_bends, F_X6_bends]
  rcases pin_cases (k := k) hpn hnp with ⟨h1, h2, k0, h3, rfl⟩ | ⟨h1, h2⟩
  · rw [if_neg h1, if_pos h2]
    exact bends_l hpn hnp hrc hnr hrd h3 11 0 0 bd ⟨bd k0, (upd_self bd k0).symm⟩
  · rw [if_pos h1, if_neg h2]
theorem kinds_l (hpn : pn = nI np) (hnp : np ≤ 9) (hrc : rc = nI nr) (hnr : nr ≤ 8) (hrd : rdOK rp nr np) {k0 : Nat} (hk : k0 < np) : ∀ (d j : Nat) (x2 : Int32) (ko : Nat → Int32), j ≤ 3 → (∃ z, ko = upd kd k0 z) →
    F_X6_kinds_l22 sl dr rc bd yr rp rw' (nI k0) (F_X6_kinds_k22 kd (nI k0)) d x2 (nI j) ko = (F_X5_kinds_l17 pn sl dr kd bd yr rc rp rw' (nI k0) F_X5_kinds_k17 d x2 (nI j), kd) := by
  have ek : (nI k0).toNatClampNeg = k0 := nI_clamp (by omega)
  intro d
  induction d with
  | zero =>
    intro j x2 ko _ hz
    obtain ⟨z, rfl⟩ := hz
    rw [F_X6_kinds_l22, F_X5_kinds_l17, F_X6_kinds_k22, F_X5_kinds_k17, ek, upd_upd, upd_self]
  | succ d ih =>
    intro j x2 ko hj hz
    obtain ⟨z, rfl⟩ := hz
    rw [F_X6_kinds_l22, F_X5_kinds_l17]
    have g1 : (3 : Int32) ≤ nI j ↔ 3 ≤ j := by rw [zl_ge (z := 3) (by decide), nI_toInt (by omega)]; omega
    have g2 : (2 : Int32) < nI j ↔ 3 ≤ j := by rw [zl_gt (z := 2) (by decide), nI_toInt (by omega)]; omega
    by_cases c : 3 ≤ j
    · rw [if_pos (g1.mpr c), if_pos (g2.mpr c), F_X6_kinds_k22, F_X5_kinds_k17, ek, upd_upd, upd_self]
    · rw [if_neg (mt g1.mp c), if_neg (mt g2.mp c), ek, upd_upd, nI_1]
      have e : F_X2_areSoWith rc rp rw' pn sl dr kd bd yr (nI k0) (F_X5_turnOf (nI j) (F_X4_bendAt pn bd (nI k0))) = F_X6_areSo sl dr rc (upd kd k0 (nI j)) bd yr rp rw' := by
        rw [F_X2_areSoWith, F_X6_areSo]
        refine so_l hrc hnr (fun i hi => ?_) 9 0 (by omega) (by omega)
        obtain ⟨p, hp, e⟩ := hrd i hi
        rw [e, wishOf_e (by omega), yearAt_e hpn hnp hp]
        by_cases c1 : nI p = nI k0
        · have e2 : p = k0 := nI_inj (by omega) (by omega) c1
          rw [if_pos c1, F_X4_bendAt, if_neg (isPin_of hpn hnp hk), ek, turn_eq, e2, pk_us]; rfl
        · have e2 : p ≠ k0 := fun q => c1 (by rw [q])
          rw [if_neg c1, turnAt_e hpn hnp hp, pk_un e2]; rfl
      rw [e]
      by_cases c2 : F_X6_areSo sl dr rc (upd kd k0 (nI j)) bd yr rp rw' = 0
      · rw [if_pos c2, if_pos c2, Int32.or_zero]; exact ih _ _ _ (by omega) ⟨_, rfl⟩
      · rw [if_neg c2, if_neg c2]; exact ih _ _ _ (by omega) ⟨_, rfl⟩
theorem st_kinds (hpn : pn = nI np) (hnp : np ≤ 9) (hrc : rc = nI nr) (hnr : nr ≤ 8) (hrd : rdOK rp nr np) (k : Int32) : F_X6_kinds pn sl dr rc kd bd yr rp rw' k = (F_X5_kinds pn sl dr kd bd yr rc rp rw' k, kd) := by
  rw [F_X5_kinds, F_X6_kinds]
  rcases pin_cases (k := k) hpn hnp with ⟨h1, h2, k0, h3, rfl⟩ | ⟨h1, h2⟩
  · rw [if_neg h1, if_pos h2]
    exact kinds_l hpn hnp hrc hnr hrd h3 4 0 0 kd (by omega) ⟨kd k0, (upd_self kd k0).symm⟩
  · rw [if_pos h1, if_neg h2]
end Q3
