section Q2
theorem in_l0 (x : Int32) (lo hi : Int64) (a b : Int) (ha : lo.toInt = a) (hb : hi.toInt = b) : F_X6_in x.toInt64 lo hi = 0 ↔ x.toInt < a ∨ b < x.toInt := by rw [in_iff, l_ti, ha, hb]
theorem w_lt (x k : Int32) (z : Int) (h : k.toInt = z) : x < k ↔ x.toInt < z := zl_lt h
theorem ite01 {c : Prop} [Decidable c] : (if c then (0 : Int32) else 1) = 0 ↔ c := by
  by_cases h : c
  · rw [if_pos h]; exact ⟨fun _ => h, fun _ => rfl⟩
  · rw [if_neg h]; exact ⟨fun q => absurd q (by decide), fun q => absurd q h⟩
theorem isKind_in (k : Int32) : F_X5_isKind k = 0 ↔ F_X6_in k.toInt64 (0 : Int64) (2 : Int64) = 0 := by
  rw [in_l0 k 0 2 0 2 (by decide) (by decide), F_X5_isKind]
  have h1 := zl_lt (x := k) (k := 0) (z := 0) (by decide)
  have h2 := zl_gt (x := k) (k := 2) (z := 2) (by decide)
  by_cases c1 : k < 0
  · rw [if_pos c1]; exact ⟨fun _ => Or.inl (h1.mp c1), fun _ => rfl⟩
  · rw [if_neg c1, ite01, h2]
    have := mt h1.mpr c1
    exact ⟨fun q => Or.inr q, fun q => by omega⟩
theorem isX_in (k N : Int32) (n : Int) (hN : N.toInt = n) : (if k < 0 then (0 : Int32) else if N ≤ k then 0 else 1) = 0 ↔ k.toInt < 0 ∨ n - 1 < k.toInt := by
  have h1 := zl_lt (x := k) (k := 0) (z := 0) (by decide)
  have h2 := zl_ge (x := k) hN
  by_cases c1 : k < 0
  · rw [if_pos c1]; exact ⟨fun _ => Or.inl (h1.mp c1), fun _ => rfl⟩
  · rw [if_neg c1, ite01, h2]
    have := mt h1.mpr c1
    exact ⟨fun q => Or.inr (by omega), fun q => by omega⟩
theorem isBend_in (k : Int32) : F_X5_isBend k = 0 ↔ F_X6_in k.toInt64 (0 : Int64) (9 : Int64) = 0 := by
  rw [in_l0 k 0 9 0 9 (by decide) (by decide), F_X5_isBend]; exact isX_in k 10 10 (by decide)
theorem isWish_in (k : Int32) : F_X5_isWish k = 0 ↔ F_X6_in k.toInt64 (0 : Int64) (5 : Int64) = 0 := by
  rw [in_l0 k 0 5 0 5 (by decide) (by decide), F_X5_isWish]; exact isX_in k 6 6 (by decide)
theorem isLane_in (k : Int32) : F_X5_isLane k = 0 ↔ F_X6_in k.toInt64 (0 : Int64) (2 : Int64) = 0 := by
  rw [in_l0 k 0 2 0 2 (by decide) (by decide), F_X5_isLane]; exact isX_in k 3 3 (by decide)
theorem isSheet_in (k : Int32) : F_X5_isSheet k = 0 ↔ ¬ F_X6_noSheet k = 0 := by
  rw [F_X6_noSheet]
  have h := in_l0 k 0 3 0 3 (by decide) (by decide)
  have h2 : F_X5_isSheet k = 0 ↔ k.toInt < 0 ∨ (4 : Int) - 1 < k.toInt := by rw [F_X5_isSheet]; exact isX_in k 4 4 (by decide)
  by_cases c : F_X6_in k.toInt64 (0 : Int64) (3 : Int64) = 0
  · rw [if_pos c, h2]; have := h.mp c; exact ⟨fun _ => by decide, fun _ => by omega⟩
  · rw [if_neg c, h2]; have := mt h.mpr c; exact ⟨fun q => by omega, fun q => absurd rfl q⟩
theorem hasWell_0 {pn : Int32} {np : Nat} (hpn : pn = nI np) (hnp : np ≤ 9) : F_X5_hasWell pn = 0 ↔ pn = 0 := by
  rw [F_X5_hasWell, ite01, hpn]
  constructor
  · intro h
    rcases Nat.eq_zero_or_pos np with q | q
    · rw [q]; rfl
    · exact absurd h (nI_nle q (by omega))
  · intro h; rw [h]; decide
theorem pin_cases {pn k : Int32} {np : Nat} (hpn : pn = nI np) (hnp : np ≤ 9) : (¬ F_X4_isPin pn k = 0 ∧ F_X6_noPin pn k = 0 ∧ ∃ k0 : Nat, k0 < np ∧ k = nI k0) ∨ (F_X4_isPin pn k = 0 ∧ ¬ F_X6_noPin pn k = 0) := by
  have h1 := zl_lt (x := k) (k := 0) (z := 0) (by decide)
  have h2 := zl_ge (x := k) (k := pn) (z := np) (z_tiN hpn (by omega))
  have h3 := zl_ge (x := k) (k := 9) (z := 9) (by decide)
  by_cases c : 0 ≤ k.toInt ∧ k.toInt < pn.toInt
  · left
    refine ⟨?_, (noPin_iff pn k).mpr c, ?_⟩
    · rw [z_tiN hpn (by omega)] at c
      rw [F_X4_isPin, if_neg (fun q => by have := h1.mp q; omega), if_neg (fun q => by have := h2.mp q; omega), if_neg (fun q => by have := h3.mp q; omega)]
      decide
    · rw [z_tiN hpn (by omega)] at c
      obtain ⟨j, h4, h5⟩ := nI_of (x := k) (fun q => by have := h1.mp q; omega)
      rw [h5, nI_toInt h4] at c
      exact ⟨j, by omega, h5⟩
  · right
    refine ⟨?_, fun q => c ((noPin_iff pn k).mp q)⟩
    rw [z_tiN hpn (by omega)] at c
    rw [F_X4_isPin]
    by_cases c1 : k < 0
    · rw [if_pos c1]
    · rw [if_neg c1]
      by_cases c2 : pn ≤ k
      · rw [if_pos c2]
      · exfalso
        have a1 := mt h1.mpr c1
        have a2 := mt h2.mpr c2
        omega
theorem isPin_of {pn : Int32} {np k0 : Nat} (hpn : pn = nI np) (hnp : np ≤ 9) (h : k0 < np) : ¬ F_X4_isPin pn (nI k0) = 0 := by
  rcases pin_cases (k := nI k0) hpn hnp with q | q
  · exact q.1
  · refine absurd ((noPin_iff pn (nI k0)).mpr ?_) q.2
    rw [nI_toInt (by omega), z_tiN hpn (by omega)]; omega
theorem turn_eq (k b : Int32) : F_X5_turnOf k b = F_X6_turnBy k b := by
  rw [F_X5_turnOf, F_X6_turnBy]
  have : (2 : Int32) * (b + 1) = 2 * b + 2 := by rw [Int32.mul_add]; rfl
  rw [this]
theorem wishOf_eq (a t b y : Int32) : F_X5_wishOf a t b y = F_X6_wishBy a b t y := rfl
theorem wishAt_eq {pn sl dr k : Int32} {kd bd yr : Nat → Int32} (h : ¬ F_X4_isPin pn k = 0) : F_X4_wishAt pn sl dr kd bd yr k = F_X6_wishOf sl dr kd bd yr k := by
  rw [F_X4_wishAt, if_neg h, turn_eq, wishOf_eq]; rfl
theorem wishNow_eq (sl dr nw k b : Int32) : F_X4_wishNow sl dr nw k b = F_X6_wishBy sl dr (F_X6_turnBy k b) nw := by
  rw [F_X4_wishNow, turn_eq, wishOf_eq]
variable {pn sl dr nw rc tr : Int32} {kd bd yr rp rw' : Nat → Int32} {np nr : Nat}
theorem st_ofPin (hpn : pn = nI np) (hnp : np ≤ 9) (k w : Int32) : F_X5_ofPin pn sl dr nw kd bd yr k w = F_X6_ofPin pn sl dr nw kd bd yr k w := by
  rw [F_X5_ofPin, F_X6_ofPin]
  rcases pin_cases (k := k) hpn hnp with ⟨h1, h2, -⟩ | ⟨h1, h2⟩
  · rw [if_neg h1, if_pos h2, wishAt_eq h1, F_X4_kindAt, if_neg h1, F_X4_bendAt, if_neg h1, F_X4_yearAt, if_neg h1, turn_eq]; rfl
  · rw [if_pos h1, if_neg h2]
theorem st_bend (hpn : pn = nI np) (hnp : np ≤ 9) (k v : Int32) : F_X5_bend pn bd k v = F_X6_bend pn bd k v := by
  rw [F_X5_bend, F_X6_bend]
  rcases pin_cases (k := k) hpn hnp with ⟨h1, h2, -⟩ | ⟨h1, h2⟩
  · rw [if_neg h1, if_pos h2, F_X4_bendAt, if_neg h1, F_X4_setBend, if_neg h1]
    by_cases c : F_X5_isBend v = 0
    · rw [if_pos c, if_pos ((isBend_in v).mp c)]
    · rw [if_neg c, if_neg (mt (isBend_in v).mpr c)]
  · rw [if_pos h1, if_neg h2]
theorem st_rekey (hpn : pn = nI np) (hnp : np ≤ 9) (a b : Int32) : F_X5_rekey pn sl dr a b = F_X6_rekey pn sl dr a b := by
  rw [F_X5_rekey, F_X6_rekey]
  by_cases c0 : pn = 0
  · rw [if_pos c0, if_pos ((hasWell_0 hpn hnp).mpr c0)]
  rw [if_neg c0, if_neg (mt (hasWell_0 hpn hnp).mp c0)]
  have ha := in_l0 a 1 5 1 5 (by decide) (by decide)
  have hb := in_l0 b 0 5 0 5 (by decide) (by decide)
  have g1 := zl_lt (x := a) (k := 1) (z := 1) (by decide)
  have g2 := zl_gt (x := a) (k := 5) (z := 5) (by decide)
  have g3 := zl_lt (x := b) (k := 0) (z := 0) (by decide)
  have g4 := zl_le (x := b) (k := 5) (z := 5) (by decide)
  by_cases c1 : a < 1
  · rw [if_pos c1, if_pos (ha.mpr (Or.inl (g1.mp c1)))]
  rw [if_neg c1]
  by_cases c2 : 5 < a
  · rw [if_pos c2, if_pos (ha.mpr (Or.inr (g2.mp c2)))]
  have na : ¬ F_X6_in a.toInt64 (1 : Int64) (5 : Int64) = 0 := fun q => by rcases ha.mp q with q | q; exact c1 (g1.mpr q); exact c2 (g2.mpr q)
  rw [if_neg c2, if_neg na]
  by_cases c3 : b < 0
  · rw [if_pos c3, if_pos (hb.mpr (Or.inl (g3.mp c3)))]
  rw [if_neg c3]
  by_cases c4 : b ≤ 5
  · have nb : ¬ F_X6_in b.toInt64 (0 : Int64) (5 : Int64) = 0 := fun q => by rcases hb.mp q with q | q; exact c3 (g3.mpr q); have := g4.mp c4; omega
    rw [if_pos c4, if_neg nb]; rfl
  · rw [if_neg c4, if_pos (hb.mpr (Or.inr (by have := mt g4.mpr c4; omega)))]
theorem st_years (hpn : pn = nI np) (hnp : np ≤ 9) (n : Int32) : F_X5_years pn nw n = F_X6_years pn nw n := by
  rw [F_X5_years, F_X6_years]
  have ha := in_l0 n 1 99 1 99 (by decide) (by decide)
  have g1 := zl_lt (x := n) (k := 1) (z := 1) (by decide)
  have g4 := zl_le (x := n) (k := 99) (z := 99) (by decide)
  by_cases c1 : n < 1
  · rw [if_pos c1, if_pos (ha.mpr (Or.inl (g1.mp c1)))]
  rw [if_neg c1]
  by_cases c4 : n ≤ 99
  · have na : ¬ F_X6_in n.toInt64 (1 : Int64) (99 : Int64) = 0 := fun q => by rcases ha.mp q with q | q; exact c1 (g1.mpr q); have := g4.mp c4; omega
    rw [if_pos c4, if_neg na]
    by_cases c0 : pn = 0
    · rw [if_pos c0, if_pos ((hasWell_0 hpn hnp).mpr c0)]
    · rw [if_neg c0, if_neg (mt (hasWell_0 hpn hnp).mp c0)]
  · rw [if_neg c4, if_pos (ha.mpr (Or.inr (by have := mt g4.mpr c4; omega)))]
theorem threw_eq (hpn : pn = nI np) (hnp : np ≤ 9) (k b : Int32) : F_X4_addTop pn nw kd bd yr k b = F_X6_threw pn nw kd bd yr k b := by
  rw [F_X4_addTop, F_X6_threw, if_neg (by rw [hpn]; exact nI_pos (by omega))]
  by_cases c : pn = 9
  · rw [if_pos c, if_neg (by rw [c]; decide)]
  · rw [if_neg c, if_pos]
    have := z_lt9 hpn hnp c
    rw [zl_lt (z := 9) (by decide), z_tiN hpn (by omega)]; omega
theorem st_throwIn (hpn : pn = nI np) (hnp : np ≤ 9) (k b : Int32) : F_X5_throwIn pn sl dr nw kd bd yr k b = F_X6_throwIn pn sl dr nw kd bd yr k b := by
  rw [F_X5_throwIn, F_X6_throwIn, threw_eq hpn hnp]
  by_cases c1 : F_X5_isKind k = 0
  · rw [if_pos c1, if_pos ((isKind_in k).mp c1)]
  rw [if_neg c1, if_neg (mt (isKind_in k).mpr c1)]
  by_cases c2 : F_X5_isBend b = 0
  · rw [if_pos c2, if_pos ((isBend_in b).mp c2)]
  rw [if_neg c2, if_neg (mt (isBend_in b).mpr c2)]
  by_cases c0 : pn = 0
  · rw [if_pos c0, if_pos ((hasWell_0 hpn hnp).mpr c0)]
  rw [if_neg c0, if_neg (mt (hasWell_0 hpn hnp).mp c0)]
  by_cases c3 : (F_X6_threw pn nw kd bd yr k b).1 = 0
  · rw [if_pos c3, if_pos c3]
  · rw [if_neg c3, if_neg c3]
    obtain ⟨q1, q2⟩ := threw_np hpn hnp c3
    rw [wishAt_eq]
    rw [z_sub1 q2 (by omega)]
    exact isPin_of q2 (by omega) (by omega)
theorem st_fish (hpn : pn = nI np) (hnp : np ≤ 9) : F_X5_fish pn sl dr kd bd yr rc = F_X6_fish pn sl dr rc kd bd yr := by
  rw [F_X5_fish, F_X6_fish, F_X4_dropTop]
  by_cases c : 2 ≤ pn
  · rw [if_pos c, if_pos c]
    have h2 : 2 ≤ np := by have := (zl_ge (z := 2) (by decide)).mp c; rw [z_tiN hpn (by omega)] at this; omega
    have hh : ¬ ((1 : Int32), pn - 1).1 = 0 := show ¬ (1 : Int32) = 0 by decide
    rw [if_neg hh, wishAt_eq (by rw [z_sub1 hpn (by omega)]; exact isPin_of hpn hnp (by omega))]; rfl
  · have hh : ((0 : Int32), pn).1 = 0 := rfl
    rw [if_neg c, if_neg c, if_pos hh]
theorem st_reading (hpn : pn = nI np) (hnp : np ≤ 9) (hrc : rc = nI nr) (hnr : nr ≤ 8) (k v : Int32) : F_X5_reading pn rc rp rw' k v = F_X6_reading pn rc rp rw' k v := by
  rw [F_X5_reading, F_X6_reading]
  rcases pin_cases (k := k) hpn hnp with ⟨h1, h2, -⟩ | ⟨h1, h2⟩
  · rw [if_neg h1, if_pos h2]
    by_cases c : F_X5_isWish v = 0
    · rw [if_pos c, if_pos ((isWish_in v).mp c)]
    have n0 : ¬ rc < 0 := by rw [hrc]; exact nI_pos (by omega)
    rw [if_neg c, if_neg (mt (isWish_in v).mpr c)]
    by_cases c2 : rc = 8
    · have n8 : ¬ rc < 8 := by rw [c2]; decide
      have e8 : F_X2_add rc rp rw' k v = ((0 : Int32), rc, rp, rw') := by rw [F_X2_add, if_neg n0, if_neg n8]
      rw [if_pos c2, e8]; rfl
    · have := z_lt8 hrc hnr c2
      have n8 : rc < 8 := by rw [zl_lt (z := 8) (by decide), z_tiN hrc (by omega)]; omega
      have e8 : F_X2_add rc rp rw' k v = ((1 : Int32), rc + 1, upd rp rc.toNatClampNeg k, upd rw' rc.toNatClampNeg v) := by rw [F_X2_add, if_neg n0, if_pos n8]
      have e : rc + 1 - 1 = rc := by rw [hrc, nI_1]; exact nI_pred nr
      rw [if_neg c2, e8, e]; rfl
  · rw [if_pos h1, if_neg h2]
theorem st_back (hrc : rc = nI nr) (hnr : nr ≤ 8) (k : Int32) : F_X5_back rc k = F_X6_back rc k := by
  rw [F_X5_back, F_X6_back]
  have ha : F_X6_in k.toInt64 (0 : Int64) rc.toInt64 = 0 ↔ k.toInt < 0 ∨ (nr : Int) < k.toInt := in_l0 k 0 rc.toInt64 0 nr (by decide) (by rw [l_ti]; exact z_tiN hrc (by omega))
  have g3 := zl_lt (x := k) (k := 0) (z := 0) (by decide)
  have g4 := zl_le (x := k) (k := rc) (z := nr) (z_tiN hrc (by omega))
  by_cases c3 : k < 0
  · rw [if_pos c3, if_pos (ha.mpr (Or.inl (g3.mp c3)))]
  rw [if_neg c3]
  by_cases c4 : k ≤ rc
  · have na : ¬ F_X6_in k.toInt64 (0 : Int64) rc.toInt64 = 0 := fun q => by rcases ha.mp q with q | q; exact c3 (g3.mpr q); have := g4.mp c4; omega
    rw [if_pos c4, if_neg na]
  · rw [if_neg c4, if_pos (ha.mpr (Or.inr (by have := mt g4.mpr c4; omega)))]
theorem st_many (w : Int32) : F_X5_many pn sl dr nw rc w = F_X6_many pn sl dr nw rc w := rfl
theorem st_tell (hpn : pn = nI np) (hnp : np ≤ 9) (hk : ∀ i, i < np → ∃ a, a ≤ 2 ∧ kd i = nI a) (k : Int32) : F_X5_tell tr pn kd bd k = F_X6_tell pn tr kd bd k := by
  rw [F_X5_tell, F_X6_tell]
  rcases pin_cases (k := k) hpn hnp with ⟨h1, h2, k0, h3, h4⟩ | ⟨h1, h2⟩
  · rw [if_neg h1, if_pos h2, F_X4_kindAt, if_neg h1, F_X4_bendAt, if_neg h1]
    have ek : k.toNatClampNeg = k0 := by rw [h4]; exact nI_clamp (by omega)
    rw [ek]
    generalize bd k0 = b
    obtain ⟨a, ha, e⟩ := hk k0 h3
    rw [e]
    have h : (2 : Int32) * b + 100 = b + 100 + b := by
      have : (2 : Int32) * b = b + b := by rw [show (2 : Int32) = 1 + 1 from rfl, Int32.add_mul, Int32.one_mul]
      rw [this, Int32.add_assoc, Int32.add_comm b 100, ← Int32.add_assoc, Int32.add_comm b 100]
    rcases (by omega : a = 0 ∨ a = 1 ∨ a = 2) with rfl | rfl | rfl
    · rw [if_pos (by decide), if_neg (by decide), if_pos (by decide), if_pos (by decide)]; rfl
    · rw [if_neg (by decide), if_pos (by decide), if_neg (by decide), if_neg (by decide), if_pos (by decide)]; rfl
    · rw [if_neg (by decide), if_neg (by decide), if_pos (by decide), h]; rfl
  · rw [if_pos h1, if_neg h2]
theorem st_splash (hpn : pn = nI np) (hnp : np ≤ 9) (k : Int32) : F_X5_splash tr pn kd k = F_X6_splash pn tr kd k := by
  rw [F_X5_splash, F_X6_splash]
  rcases pin_cases (k := k) hpn hnp with ⟨h1, h2, k0, h3, h4⟩ | ⟨h1, h2⟩
  · rw [if_neg h1, if_pos h2, F_X4_kindAt, if_neg h1]; rfl
  · rw [if_pos h1, if_neg h2]
theorem st_as (hpn : pn = nI np) (hnp : np ≤ 9) (k w : Int32) : F_X5_as pn kd k w = F_X6_as pn kd k w := by
  rw [F_X5_as, F_X6_as]
  rcases pin_cases (k := k) hpn hnp with ⟨h1, h2, k0, h3, h4⟩ | ⟨h1, h2⟩
  · rw [if_neg h1, if_pos h2]
    by_cases c1 : F_X5_isKind w = 0
    · rw [if_pos c1, if_pos ((isKind_in w).mp c1)]; rfl
    rw [if_neg c1, if_neg (mt (isKind_in w).mpr c1), F_X4_kindAt, if_neg h1]
    by_cases c2 : kd k.toNatClampNeg < w
    · rw [if_pos c2, if_neg (Int32.not_le.mpr c2)]; rfl
    · rw [if_neg c2, if_pos (Int32.not_lt.mp c2)]; rfl
  · rw [if_pos h1, if_neg h2]; rfl
end Q2
