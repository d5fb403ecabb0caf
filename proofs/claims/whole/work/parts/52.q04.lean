section Q4
variable {pn sl dr nw rc tr : Int32} {kd bd yr rp rw' : Nat → Int32} {np nr : Nat}
theorem key_e (hpn : pn = nI np) (hnp : np ≤ 9) (hrc : rc = nI nr) (hnr : nr ≤ 8) (hrd : rdOK rp nr np) (a b : Int32) : F_X2_areSoByKey rc rp rw' pn kd bd yr a b = F_X6_areSo a b rc kd bd yr rp rw' := by
  rw [F_X2_areSoByKey, F_X6_areSo]
  refine key_l hrc hnr (fun i hi => ?_) 9 0 (by omega) (by omega)
  obtain ⟨p, hp, e⟩ := hrd i hi
  rw [e, wishOf_e (by omega), yearAt_e hpn hnp hp, turnAt_e hpn hnp hp]; rfl
theorem keys_l (hpn : pn = nI np) (hnp : np ≤ 9) (hrc : rc = nI nr) (hnr : nr ≤ 8) (hrd : rdOK rp nr np) (w : Int32) : ∀ (n s j : Nat) (x2 x3 x4 sl' dr' : Int32), 1 ≤ s → s ≤ 5 → j ≤ 5 → 6 * (s - 1) + j + n = 30 → (x3 = -9 ∨ 0 ≤ x3) →
    F_X5_keys_l43 pn kd bd yr rc rp rw' (nI s) (F_X5_keys_k43 (fun a b c d => F_X5_keys_l34 pn kd bd yr rc rp rw' (F_X5_keys_k34 w) (6 - s) a b c d) (nI s)) (7 - j) x2 x3 x4 (nI j)
      = F_X6_keys_l49 rc kd bd yr rp rw' (F_X6_keys_k49 w) (n + 1) x2 x3 x4 (nI (6 * (s - 1) + j)) sl' dr' := by
  intro n
  induction n with
  | zero => intro s j x2 x3 x4 sl' dr' h1 h2 h3 h4 _; omega
  | succ n ih =>
    intro s j x2 x3 x4 sl' dr' h1 h2 h3 h4 hx
    have tail : ∀ (x2 x3 x4 sl' dr' : Int32), (x3 = -9 ∨ 0 ≤ x3) → F_X5_keys_l43 pn kd bd yr rc rp rw' (nI s) (F_X5_keys_k43 (fun a b c d => F_X5_keys_l34 pn kd bd yr rc rp rw' (F_X5_keys_k34 w) (6 - s) a b c d) (nI s)) (6 - j) x2 x3 x4 (nI j + 1)
      = F_X6_keys_l49 rc kd bd yr rp rw' (F_X6_keys_k49 w) (n + 1) x2 x3 x4 (nI (6 * (s - 1) + j) + 1) sl' dr' := by
      intro x2 x3 x4 sl' dr' hx
      rw [nI_1, nI_1]
      rcases (by omega : j < 5 ∨ j = 5) with q | q
      · have := ih s (j + 1) x2 x3 x4 sl' dr' h1 h2 (by omega) (by omega) hx
        rw [show 7 - (j + 1) = 6 - j by omega, show 6 * (s - 1) + (j + 1) = 6 * (s - 1) + j + 1 by omega] at this
        exact this
      · subst q
        rw [show 6 - 5 = 0 + 1 from rfl, F_X5_keys_l43, if_pos (show (5 : Int32) < nI (5 + 1) by decide), F_X5_keys_k43]
        show F_X5_keys_l34 pn kd bd yr rc rp rw' (F_X5_keys_k34 w) (6 - s) x2 x3 x4 (nI s + 1) = _
        rw [nI_1]
        rcases (by omega : s < 5 ∨ s = 5) with q2 | q2
        · have := ih (s + 1) 0 x2 x3 x4 sl' dr' (by omega) (by omega) (by omega) (by omega) hx
          have c : ¬ (5 : Int32) < nI (s + 1) := by rw [zl_gt (z := 5) (by decide), nI_toInt (by omega)]; omega
          rw [show 6 - s = (5 - s) + 1 by omega, F_X5_keys_l34, if_neg c]
          rw [show 6 - (s + 1) = 5 - s by omega, show 6 * (s + 1 - 1) + 0 = 6 * (s - 1) + 5 + 1 by omega] at this
          exact this
        · subst q2
          have hn : n = 0 := by omega
          subst hn
          rw [show 6 - 5 = 0 + 1 from rfl, F_X5_keys_l34, if_pos (show (5 : Int32) < nI (5 + 1) by decide), F_X6_keys_l49, if_pos (show (30 : Int32) ≤ nI (6 * (5 - 1) + 5 + 1) by decide)]
          rfl
    have c1 : ¬ (5 : Int32) < nI j := by rw [zl_gt (z := 5) (by decide), nI_toInt (by omega)]; omega
    have c2 : ¬ (30 : Int32) ≤ nI (6 * (s - 1) + j) := by rw [zl_ge (z := 30) (by decide), nI_toInt (by omega)]; omega
    have e1 : (1 : Int32) + nI (6 * (s - 1) + j) / 6 = nI s := by
      rw [show (6 : Int32) = nI 6 from rfl, pk_div (by omega) (by decide) (by decide), show (1 : Int32) = nI 1 from rfl, nI_add, show 1 + (6 * (s - 1) + j) / 6 = s by omega]
    have e2 : nI (6 * (s - 1) + j) - nI (6 * (s - 1) + j) / 6 * 6 = nI j := by
      rw [show (6 : Int32) = nI 6 from rfl, pk_rem (by omega) (by decide) (by decide), show (6 * (s - 1) + j) % 6 = j by omega]
    rw [show 7 - j = (6 - j) + 1 by omega, F_X5_keys_l43, F_X6_keys_l49, if_neg c1, if_neg c2, e1, e2, key_e hpn hnp hrc hnr hrd]
    by_cases c3 : F_X6_areSo (nI s) (nI j) rc kd bd yr rp rw' = 0
    · rw [if_pos c3, if_pos c3, Int32.add_zero]; exact tail _ _ _ _ _ hx
    · rw [if_neg c3, if_neg c3]
      rcases hx with hx | hx
      · have n0 : ¬ (0 : Int32) ≤ x3 := by rw [hx]; decide
        rw [if_pos hx, if_neg n0]
        refine tail _ _ _ _ _ (Or.inr ?_)
        rw [F_X5_keyNumber, show (10 : Int32) = nI 10 from rfl, pk_mul, nI_add]
        exact nI_pos' (by omega)
      · have n0 : ¬ x3 = -9 := fun q => by rw [q] at hx; exact absurd hx (by decide)
        rw [if_neg n0, if_pos hx]
        exact tail _ _ _ _ _ (Or.inr hx)
theorem st_keys (hpn : pn = nI np) (hnp : np ≤ 9) (hrc : rc = nI nr) (hnr : nr ≤ 8) (hrd : rdOK rp nr np) (w : Int32) : F_X5_keys pn kd bd yr rc rp rw' w = F_X6_keys pn sl dr rc kd bd yr rp rw' w := by
  rw [F_X5_keys, F_X6_keys]
  by_cases c0 : pn = 0
  · rw [if_pos c0, if_pos ((hasWell_0 hpn hnp).mpr c0)]
  rw [if_neg c0, if_neg (mt (hasWell_0 hpn hnp).mp c0)]
  have hb := in_l0 w 0 2 0 2 (by decide) (by decide)
  have g3 := zl_lt (x := w) (k := 0) (z := 0) (by decide)
  have g4 := zl_le (x := w) (k := 2) (z := 2) (by decide)
  by_cases c3 : w < 0
  · rw [if_pos c3, if_pos (hb.mpr (Or.inl (g3.mp c3)))]
  rw [if_neg c3]
  by_cases c4 : w ≤ 2
  · have nb : ¬ F_X6_in w.toInt64 (0 : Int64) (2 : Int64) = 0 := fun q => by rcases hb.mp q with q | q; exact c3 (g3.mpr q); have := g4.mp c4; omega
    rw [if_pos c4, if_neg nb, F_X5_keys_l34, if_neg (show ¬ (5 : Int32) < 1 by decide)]
    exact keys_l hpn hnp hrc hnr hrd w 30 1 0 0 (-9) (-9) sl dr (by omega) (by omega) (by omega) (by omega) (Or.inl rfl)
  · rw [if_neg c4, if_pos (hb.mpr (Or.inr (by have := mt g4.mpr c4; omega)))]
theorem odds_l (k v w : Int32) : ∀ (d j m : Nat), j ≤ 10 → 10 < j + d → m ≤ j → ∃ M : Nat, M ≤ 10 ∧ F_X5_odds_l40 sl dr nw k v (F_X5_odds_k40 w) d (nI m) (nI j) = F_X5_odds_k40 w (nI M) 10 ∧ F_X6_odds_l51 sl dr nw k v (F_X6_odds_k51 w) d (lN m) (nI j) = F_X6_share (lN M) w := by
  intro d
  induction d with
  | zero => intro j m hj hd _; omega
  | succ d ih =>
    intro j m hj hd hm
    rw [F_X5_odds_l40, F_X6_odds_l51]
    by_cases c : (10 : Int32) ≤ nI j
    · have : 10 ≤ j := by rw [zl_ge (z := 10) (by decide), nI_toInt (by omega)] at c; omega
      have ej : j = 10 := by omega
      subst ej
      rw [if_pos c, if_pos c]
      exact ⟨m, hm, rfl, rfl⟩
    · have hj2 : j < 10 := by
        have : ¬ (10 : Int) ≤ j := fun q => c (by rw [zl_ge (z := 10) (by decide), nI_toInt (by omega)]; exact q)
        omega
      rw [if_neg c, if_neg c, wishNow_eq, nI_1 j]
      by_cases c2 : F_X6_wishBy sl dr (F_X6_turnBy k (nI j)) nw = v
      · rw [if_pos c2, if_pos c2, nI_1 m, lN_1]; exact ih _ _ (by omega) (by omega) (by omega)
      · rw [if_neg c2, if_neg c2, Int64.add_zero]; exact ih _ _ (by omega) (by omega) (by omega)
theorem share_e : ∀ M : Nat, M < 11 → F_X5_odds_k40 0 (nI M) 10 = F_X6_share (lN M) 0 ∧ F_X5_odds_k40 1 (nI M) 10 = F_X6_share (lN M) 1 := by decide +kernel
theorem st_odds (hpn : pn = nI np) (hnp : np ≤ 9) (k v w : Int32) : F_X5_odds pn sl dr nw k v w = F_X6_odds pn sl dr nw k v w := by
  rw [F_X5_odds, F_X6_odds]
  by_cases c1 : F_X5_isKind k = 0
  · rw [if_pos c1, if_pos ((isKind_in k).mp c1)]; rfl
  rw [if_neg c1, if_neg (mt (isKind_in k).mpr c1)]
  by_cases c : F_X5_isWish v = 0
  · rw [if_pos c, if_pos ((isWish_in v).mp c)]; rfl
  rw [if_neg c, if_neg (mt (isWish_in v).mpr c)]
  have main : (w = 0 ∨ w = 1) → F_X5_odds_j23 pn sl dr nw k v w = if pn = 0 then F_X6_lost else F_X6_odds_l51 sl dr nw k v (F_X6_odds_k51 w) 11 0 0 := by
    intro hw
    rw [F_X5_odds_j23]
    by_cases c0 : pn = 0
    · rw [if_pos c0, if_pos ((hasWell_0 hpn hnp).mpr c0)]; rfl
    rw [if_neg c0, if_neg (mt (hasWell_0 hpn hnp).mp c0)]
    obtain ⟨M, h1, h2, h3⟩ := odds_l (sl := sl) (dr := dr) (nw := nw) k v w 11 0 0 (by omega) (by omega) (by omega)
    refine h2.trans (Eq.trans ?_ h3.symm)
    rcases hw with rfl | rfl
    · exact (share_e M (by omega)).1
    · exact (share_e M (by omega)).2
  by_cases c1 : w = 0
  · rw [if_pos c1, if_neg (fun q => ((in01 w).mp q).1 c1)]; exact main (Or.inl c1)
  · rw [if_neg c1]
    by_cases c2 : w = 1
    · rw [if_pos c2, if_neg (fun q => ((in01 w).mp q).2 c2)]; exact main (Or.inr c2)
    · rw [if_neg c2, if_pos ((in01 w).mpr ⟨c1, c2⟩)]; rfl
end Q4
