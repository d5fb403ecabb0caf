section Q6
variable {ss sa sh : Nat → Int32} {ln lg lno lgo : Int32} {cl clo : Nat → Int32} {j jo : Nat}
theorem cp1 {k i n : Int32} {a N : Nat} (hk : k = nI j) (hj : j < 4) (hi : i = nI a) (hn : n = nI N) (hN : a + N ≤ 60) (K : Int32 → (Nat → Int32) → Int32 × Int32 × (Nat → Int32) × (Nat → Int32)) : ∀ (d x : Nat) (hn' : Nat → Int32), x ≤ N → N < x + d → (∀ t, t < x → hn' t = sh (60 * j + a + t)) → ∃ h' : Nat → Int32, F_X6_copy_l107 sh k i n K d (nI x) hn' = K (nI N) h' ∧ ∀ t, t < N → h' t = sh (60 * j + a + t) := by
  intro d
  induction d with
  | zero => intro x hn' h1 h2; omega
  | succ d ih =>
    intro x hn' h1 h2 h3
    rw [F_X6_copy_l107]
    by_cases c : n ≤ nI x
    · have : N ≤ x := by rw [hn] at c; exact (nI_leI (by omega) (by omega)).mp c
      have ex : x = N := by omega
      subst ex
      rw [if_pos c]
      exact ⟨hn', rfl, h3⟩
    · have hx : x < N := by
        have : ¬ N ≤ x := fun q => c (by rw [hn]; exact nI_le q (by omega))
        omega
      have ei : ((60 : Int32) * k + i + nI x).toNatClampNeg = 60 * j + a + x := by rw [sheet_e hk hi, nI_add]; exact nI_clamp (by omega)
      rw [if_neg c, nI_1, ei, show (nI x).toNatClampNeg = x from nI_clamp (by omega)]
      refine ih (x + 1) _ (by omega) (by omega) (fun t ht => ?_)
      by_cases q : t = x
      · rw [q, pk_us]
      · rw [pk_un q]; exact h3 t (by omega)
theorem cp2 {o i n : Int32} {b N : Nat} {h : Nat → Int32} (ho : o = nI jo) (hj : jo < 4) (hi : i = nI b) (hn : n = nI N) (hN : b + N ≤ 60) : ∀ (d x : Nat) (s : Nat → Int32), x ≤ N → N < x + d → ∃ s' : Nat → Int32, F_X6_copy_l144 o i n h (F_X6_copy_k144 n h) d (nI x) s = F_X6_copy_k144 n h (nI N) s' ∧ (∀ t, x ≤ t → t < N → s' (60 * jo + b + t) = h t) ∧ ∀ q, (∀ t, x ≤ t → t < N → q ≠ 60 * jo + b + t) → s' q = s q := by
  intro d
  induction d with
  | zero => intro x s h1 h2; omega
  | succ d ih =>
    intro x s h1 h2
    rw [F_X6_copy_l144]
    by_cases c : n ≤ nI x
    · have : N ≤ x := by rw [hn] at c; exact (nI_leI (by omega) (by omega)).mp c
      have ex : x = N := by omega
      subst ex
      rw [if_pos c]
      exact ⟨s, rfl, fun t h3 h4 => by omega, fun _ _ => rfl⟩
    · have hx : x < N := by
        have : ¬ N ≤ x := fun q => c (by rw [hn]; exact nI_le q (by omega))
        omega
      have ei : ((60 : Int32) * o + i + nI x).toNatClampNeg = 60 * jo + b + x := by rw [sheet_e ho hi, nI_add]; exact nI_clamp (by omega)
      rw [if_neg c, nI_1, ei, show (nI x).toNatClampNeg = x from nI_clamp (by omega)]
      obtain ⟨s', g1, g2, g3⟩ := ih (x + 1) (upd s (60 * jo + b + x) (h x)) (by omega) (by omega)
      refine ⟨s', g1, fun t h3 h4 => ?_, fun q hq => ?_⟩
      · rcases (by omega : t = x ∨ x + 1 ≤ t) with z | z
        · subst z; rw [g3 _ (fun t' h5 h6 => by omega), pk_us]
        · exact g2 t z h4
      · rw [g3 q (fun t h5 h6 => hq t (by omega) h6), pk_un (hq x (Nat.le_refl x) hx)]
/-- the copy itself, on both sides -/
theorem cp_main {k i o i2 n : Int32} {a b N na nb : Nat} {hn0 : Nat → Int32} (hk : k = nI j) (hj : j < 4) (ho : o = nI jo) (hjo : jo < 4) (hi : i = nI a) (hi2 : i2 = nI b) (hn : n = nI N) (h1 : a + N ≤ na) (h2 : b + N ≤ nb) (hna : na ≤ 60) (hnb : nb ≤ 60) (hc : ∀ t, t < na → cl t = sh (60 * j + t)) (hco : ∀ t, t < nb → clo t = sh (60 * jo + t)) :
    ∃ (s' h' : Nat → Int32), F_X6_copy_l107 sh k i n (F_X6_copy_k107 sh o i2 n) 61 0 hn0 = (n, 0, s', h') ∧ (∀ t, t < nb → va_cpy cl clo i.toNatClampNeg i2.toNatClampNeg n.toNatClampNeg t = s' (60 * jo + t)) ∧ ∀ t, t < 4 → t ≠ jo → ∀ i, i < 60 → s' (60 * t + i) = sh (60 * t + i) := by
  obtain ⟨h', g1, g2⟩ := cp1 (sh := sh) hk hj hi hn (by omega) (F_X6_copy_k107 sh o i2 n) 61 0 hn0 (by omega) (by omega) (fun t ht => by omega)
  obtain ⟨s', g3, g4, g5⟩ := cp2 (h := h') ho hjo hi2 hn (by omega) 61 0 sh (by omega) (by omega)
  refine ⟨s', h', ?_, fun t ht => ?_, fun t ht hne i hi => g5 _ (fun t' h5 h6 => by omega)⟩
  · refine g1.trans ?_
    rw [F_X6_copy_k107]
    exact g3
  · rw [hi, hi2, hn, nI_clamp (by omega), nI_clamp (by omega), nI_clamp (by omega)]
    by_cases c : b ≤ t ∧ t < b + N
    · rw [pk_cpy_in c.1 c.2, hc _ (by omega), show 60 * jo + t = 60 * jo + b + (t - b) by omega, g4 (t - b) (Nat.zero_le _) (by omega), g2 (t - b) (by omega), Nat.add_assoc]
    · rw [pk_cpy_out (by omega), hco t ht, g5 _ (fun t' h5 h6 => by omega)]
theorem beyond_h {n : Nat} (hn : n ≤ 60) (i m : Int32) : ¬ F_X3_hasCells (nI n) i m = 0 → ∃ x y : Nat, i = nI x ∧ m = nI y ∧ x + y ≤ n := by
  intro h
  have h2 : F_X6_isBeyond i m.toInt64 (nI n) = 0 := Classical.byContradiction (fun q => h ((hasCells_e hn i m).mpr q))
  obtain ⟨x, y, e1, e2, e3⟩ := beyond_in (by rw [nI_toInt (by omega)]; omega) h2
  have h3 := (beyond_iff (by rw [l_ti]; have := Int32.le_toInt m; omega) (by rw [l_ti]; have := Int32.toInt_lt m; omega)).mp h2
  rw [l_ti, e1, e2, nI_toInt (by omega), nI_toInt (by omega), nI_toInt (by omega)] at h3
  exact ⟨x, y, e1, e2, by omega⟩
theorem st_copyX {k i o i2 n : Int32} {hn0 : Nat → Int32} (hk : k = nI j) (hj : j < 4) (ho : o = nI jo) (hjo : jo < 4) (h : shR (ss j) (sa j) (fun i => sh (60 * j + i)) ln lg cl) (h' : shR (ss jo) (sa jo) (fun i => sh (60 * jo + i)) lno lgo clo) :
    (F_X5_copyD ln lg cl lno lgo clo k i o i2 n).1 = (F_X6_copy ss sa sh hn0 k i o i2 n).1 ∧ (F_X5_copyD ln lg cl lno lgo clo k i o i2 n).2.1 = (F_X6_copy ss sa sh hn0 k i o i2 n).2.1 ∧ stR ss sa sh ss sa (F_X6_copy ss sa sh hn0 k i o i2 n).2.2.1 jo lno lgo (F_X5_copyD ln lg cl lno lgo clo k i o i2 n).2.2 := by
  obtain ⟨n1, n2, ek⟩ := nS hk hj
  obtain ⟨m1, m2, eo⟩ := nS ho hjo
  have rf := stR.rf h'
  rw [F_X5_copyD, F_X6_copy, if_neg n1, if_pos n2, if_neg m1, if_pos m2, ek, eo]
  rcases h with ⟨h1, h2, h3⟩ | ⟨na, la, h1, h2, h3, h4, h5, h6, h7⟩
  · rw [if_pos (hasRow_e.mpr h2), if_pos h1]; exact ⟨rfl, rfl, rf⟩
  have r : ¬ F_X3_hasRow ln = 0 := fun q => nI_ne_m1 (by omega) (h6.symm.trans (hasRow_e.mp q))
  have p : ¬ ss j < 0 := by rw [h3]; exact nI_pos (by omega)
  rw [if_neg r, if_neg p]
  rcases h' with ⟨g1, g2, g3⟩ | ⟨nb, lb, g1, g2, g3, g4, g5, g6, g7⟩
  · rw [if_pos (hasRow_e.mpr g2), if_neg (Int32.not_le.mpr g1)]; exact ⟨rfl, rfl, rf⟩
  have r' : ¬ F_X3_hasRow lno = 0 := fun q => nI_ne_m1 (by omega) (g6.symm.trans (hasRow_e.mp q))
  have p' : 0 ≤ ss jo := by rw [g3]; exact nI_pos' (by omega)
  rw [if_neg r', if_pos p', h6, g6, h5, g5]
  by_cases c : nI la = nI lb
  case neg => rw [if_neg c, if_neg c]; rw [← g6]; exact ⟨rfl, rfl, rf⟩
  rw [if_pos c, if_pos c, h4, g4, h3, g3]
  by_cases c1 : F_X3_hasCells (nI na) i n = 0
  · rw [if_pos c1, if_neg ((hasCells_e h1 i n).mp c1), ← g6, ← g4]; exact ⟨rfl, rfl, rf⟩
  have d1 : F_X6_isBeyond i n.toInt64 (nI na) = 0 := Classical.byContradiction (fun q => c1 ((hasCells_e h1 i n).mpr q))
  rw [if_neg c1, if_pos d1]
  by_cases c2 : F_X3_hasCells (nI nb) i2 n = 0
  · rw [if_pos c2, if_neg ((hasCells_e g1 i2 n).mp c2), ← g6, ← g4]; exact ⟨rfl, rfl, rf⟩
  have d2 : F_X6_isBeyond i2 n.toInt64 (nI nb) = 0 := Classical.byContradiction (fun q => c2 ((hasCells_e g1 i2 n).mpr q))
  rw [if_neg c2, if_pos d2]
  obtain ⟨a, N, e1, e2, e3⟩ := beyond_h h1 i n c1
  obtain ⟨b, N2, e4, e5, e6⟩ := beyond_h g1 i2 n c2
  have eN : N = N2 := nI_inj (by omega) (by omega) (e2.symm.trans e5)
  subst eN
  obtain ⟨s', h'', f1, f2, f3⟩ := cp_main (sh := sh) (cl := cl) (clo := clo) (hn0 := hn0) hk hj ho hjo e1 e4 e2 e3 e6 h1 g1 h7 g7
  rw [f1]
  exact ⟨rfl, rfl, ⟨Or.inr ⟨nb, lb, g1, g2, g3, rfl, g5, rfl, f2⟩, fun t ht hne => ⟨rfl, rfl, f3 t ht hne⟩⟩⟩
theorem copyS_D {k i o i2 n : Int32} : F_X5_copyS ln lg cl k i o i2 n = F_X5_copyD ln lg cl ln lg cl k i o i2 n := by
  rw [F_X5_copyS, F_X5_copyD]
  by_cases c1 : F_X5_isSheet k = 0
  · rw [if_pos c1, if_pos c1]
  rw [if_neg c1, if_neg c1]
  by_cases c2 : F_X5_isSheet o = 0
  · rw [if_pos c2, if_pos c2]
  rw [if_neg c2, if_neg c2]
  by_cases c3 : F_X3_hasRow ln = 0
  · rw [if_pos c3, if_pos c3]
  rw [if_neg c3, if_neg c3]
end Q6
