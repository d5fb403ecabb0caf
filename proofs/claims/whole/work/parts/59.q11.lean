section Q11
variable {ss sa sh : Nat → Int32} {ln lg sl dr fl ti tn tf pn nw : Int32} {cl : Nat → Int32} {jj n a0 f0 N np p : Nat} {kd bd yr ka ba ta : Nat → Int32}
theorem pref_39 {c : Nat → Int32} (h : pref c N p) : p ≤ 39 := by
  rcases Nat.lt_or_ge 39 p with q | q
  · exact absurd (go_big (Nat.le_refl 39) (by omega) (c 39)) (h.2.1 39 q)
  · exact q
theorem c48 {c : Int32} {b : Int} (hb : b ≤ 9) (h : 48 ≤ c.toInt ∧ c.toInt ≤ b + 48) : 0 ≤ c - 48 := by
  have := (sub48 c 0 b (by omega) hb).mpr (by omega)
  rw [zl_ge (z := 0) (by decide)]; exact this.1
theorem rp_ok (htf : tf = nI f0) (htn : tn = nI N) (hN : f0 + N ≤ 240) {m : Nat} (hm : m < 9) (hp : 3 + 4 * m + 4 ≤ N) (ha : sh (f0 + (3 + 4 * m)) = 59) (hb : sh (f0 + (3 + 4 * m + 1)) = 112 ∨ sh (f0 + (3 + 4 * m + 1)) = 99 ∨ sh (f0 + (3 + 4 * m + 1)) = 100) (hc : 48 ≤ (sh (f0 + (3 + 4 * m + 2))).toInt ∧ (sh (f0 + (3 + 4 * m + 2))).toInt ≤ 57) (hd : 48 ≤ (sh (f0 + (3 + 4 * m + 3))).toInt ∧ (sh (f0 + (3 + 4 * m + 3))).toInt ≤ 57) (ry : Int32) :
    F_X6_readsPin (nI (3 + 4 * m)) (nI m) ry ka ba ta sh tf tn = (1, ry + (sh (f0 + (3 + 4 * m + 3)) - 48), nI (3 + 4 * m + 4), nI (m + 1), upd ka m (kv (fun t => sh (f0 + t)) m), upd ba m (bv (fun t => sh (f0 + t)) m), upd ta m (ry + (sh (f0 + (3 + 4 * m + 3)) - 48))) := by
  have n9 : ¬ nI m = 9 := fun z => by have := nI_inj (a := m) (b := 9) (by omega) (by omega) z; omega
  have em : (nI m).toNatClampNeg = m := nI_clamp (by omega)
  have e1 : nI (3 + 4 * m) + 1 = nI (3 + 4 * m + 1) := nI_1 _
  have c0 := code_in (sh := sh) htf htn hN (t := 3 + 4 * m) (by omega)
  have c1 := code_in (sh := sh) htf htn hN (t := 3 + 4 * m + 1) (by omega)
  have f1 : F_X6_figure (nI (3 + 4 * m + 1) + 1) sh tf tn 0 0 9 = (sh (f0 + (3 + 4 * m + 2)) - 48, nI (3 + 4 * m + 3)) := by
    rw [show nI (3 + 4 * m + 1) + 1 = nI (3 + 4 * m + 2) from nI_1 _]; exact fig_ok htf htn hN (by omega) (by decide) (by omega) (by omega) (by decide : (0 : Int32).toInt = 0) (by decide : (9 : Int32).toInt = 9) (by omega)
  have f2 : F_X6_figure (nI (3 + 4 * m + 3)) sh tf tn (sh (f0 + (3 + 4 * m + 2)) - 48) 0 9 = (sh (f0 + (3 + 4 * m + 3)) - 48, nI (3 + 4 * m + 4)) := fig_ok htf htn hN (by omega) (c48 (b := 9) (by omega) (by omega)) (by omega) (by omega) (by decide : (0 : Int32).toInt = 0) (by decide : (9 : Int32).toInt = 9) (by omega)
  have g0 : 0 ≤ sh (f0 + (3 + 4 * m + 3)) - 48 := c48 (b := 9) (by omega) (by omega)
  have j143 : ∀ s k, F_X6_readsPin_j143 (nI (3 + 4 * m)) (nI m) ry ka ba ta sh tf tn s k = (1, ry + s, nI (3 + 4 * m + 4), nI (m + 1), upd ka m k, upd ba m (bv (fun t => sh (f0 + t)) m), upd ta m (ry + s)) := by
    intro s k
    rw [F_X6_readsPin_j143, e1, f1]
    dsimp only
    rw [f2]
    dsimp only
    rw [if_neg (Int32.not_lt.mpr g0), nI_1 m, em]
    rfl
  have j110 : ∀ s, F_X6_readsPin_j110 (nI (3 + 4 * m)) (nI m) ry ka ba ta sh tf tn s = (1, ry + s, nI (3 + 4 * m + 4), nI (m + 1), upd ka m (kv (fun t => sh (f0 + t)) m), upd ba m (bv (fun t => sh (f0 + t)) m), upd ta m (ry + s)) := by
    intro s
    rw [F_X6_readsPin_j110, e1, c1, kv]
    by_cases q1 : sh (f0 + (3 + 4 * m + 1)) = 112
    · rw [if_pos q1, if_pos q1]; exact j143 _ _
    rw [if_neg q1, if_neg q1]
    by_cases q2 : sh (f0 + (3 + 4 * m + 1)) = 99
    · rw [if_pos q2, if_pos q2]; exact j143 _ _
    rw [if_neg q2, if_neg q2]; exact j143 _ _
  have j59 : F_X6_readsPin_j59 (nI (3 + 4 * m)) (nI m) ry ka ba ta sh tf tn = (1, ry + (sh (f0 + (3 + 4 * m + 3)) - 48), nI (3 + 4 * m + 4), nI (m + 1), upd ka m (kv (fun t => sh (f0 + t)) m), upd ba m (bv (fun t => sh (f0 + t)) m), upd ta m (ry + (sh (f0 + (3 + 4 * m + 3)) - 48))) := by
    rw [F_X6_readsPin_j59, e1, f1]
    dsimp only
    rw [f2]
    dsimp only
    rw [if_pos g0]; exact j110 _
  rw [F_X6_readsPin, if_neg n9, c0, if_pos ha, e1, c1]
  by_cases q1 : sh (f0 + (3 + 4 * m + 1)) = 112
  · rw [if_pos q1]; exact j59
  rw [if_neg q1]
  by_cases q2 : sh (f0 + (3 + 4 * m + 1)) = 99
  · rw [if_pos q2]; exact j59
  rw [if_neg q2]
  by_cases q3 : sh (f0 + (3 + 4 * m + 1)) = 100
  · rw [if_pos q3]; exact j59
  rcases hb with h | h | h
  · exact absurd h q1
  · exact absurd h q2
  · exact absurd h q3
theorem rp_no (htf : tf = nI f0) (htn : tn = nI N) (hN : f0 + N ≤ 240) (hp : pref (fun t => sh (f0 + t)) N p) {m : Nat} (hm : m ≤ 9) (h1 : 3 + 4 * m ≤ p) (h2 : p < 3 + 4 * m + 4) (ry : Int32) :
    ∃ (ry' rp' : Int32) (ka' ba' ta' : Nat → Int32), F_X6_readsPin (nI (3 + 4 * m)) (nI m) ry ka ba ta sh tf tn = (0, ry', nI p, rp', ka', ba', ta') := by
  have p39 := pref_39 hp
  have hpN := hp.1
  by_cases m9 : m = 9
  · subst m9
    have e : p = 39 := by omega
    subst e
    exact ⟨_, _, _, _, _, by rw [F_X6_readsPin, if_pos (by decide)]⟩
  have hm' : m < 9 := by omega
  have n9 : ¬ nI m = 9 := fun z => by have := nI_inj (a := m) (b := 9) (by omega) (by omega) z; omega
  have e1 : nI (3 + 4 * m) + 1 = nI (3 + 4 * m + 1) := nI_1 _
  have cd : ∀ t, t < p → F_X6_codeAt (nI t) sh tf tn = sh (f0 + t) := fun t ht => code_in htf htn hN (by omega)
  rw [F_X6_readsPin, if_neg n9]
  by_cases pa : p = 3 + 4 * m
  · have c0 : ¬ F_X6_codeAt (nI (3 + 4 * m)) sh tf tn = 59 := by
      rcases Nat.lt_or_ge (3 + 4 * m) N with q | q
      · rw [code_in htf htn hN q]
        have := hp.2.2 (by omega)
        rw [pa] at this
        exact (go_a hm' _).mp this
      · rw [code_out htn q (by omega)]; decide
    rw [if_neg c0, pa]; exact ⟨_, _, _, _, _, rfl⟩
  have a0 : sh (f0 + (3 + 4 * m)) = 59 := Classical.byContradiction (fun q => hp.2.1 (3 + 4 * m) (by omega) ((go_a hm' _).mpr q))
  rw [cd (3 + 4 * m) (by omega), if_pos a0, e1]
  by_cases pb : p = 3 + 4 * m + 1
  · have c0 : ¬ F_X6_codeAt (nI (3 + 4 * m + 1)) sh tf tn = 112 ∧ ¬ F_X6_codeAt (nI (3 + 4 * m + 1)) sh tf tn = 99 ∧ ¬ F_X6_codeAt (nI (3 + 4 * m + 1)) sh tf tn = 100 := by
      rcases Nat.lt_or_ge (3 + 4 * m + 1) N with q | q
      · rw [code_in htf htn hN q]
        have := hp.2.2 (by omega)
        rw [pb] at this
        exact (go_b hm' _).mp this
      · rw [code_out htn q (by omega)]; decide
    rw [if_neg c0.1, if_neg c0.2.1, if_neg c0.2.2, pb]; exact ⟨_, _, _, _, _, rfl⟩
  have b0 : sh (f0 + (3 + 4 * m + 1)) = 112 ∨ sh (f0 + (3 + 4 * m + 1)) = 99 ∨ sh (f0 + (3 + 4 * m + 1)) = 100 := Classical.byContradiction (fun q => hp.2.1 (3 + 4 * m + 1) (by omega) ((go_b hm' _).mpr ⟨fun z => q (Or.inl z), fun z => q (Or.inr (Or.inl z)), fun z => q (Or.inr (Or.inr z))⟩))
  have fin : ∀ b x1, F_X6_figure (nI (3 + 4 * m + 1) + 1) sh tf tn 0 0 9 = (b, x1) → F_X6_figure x1 sh tf tn b 0 9 = (-9, nI p) → ∃ (ry' rp' : Int32) (ka' ba' ta' : Nat → Int32), F_X6_readsPin_j59 (nI (3 + 4 * m)) (nI m) ry ka ba ta sh tf tn = (0, ry', nI p, rp', ka', ba', ta') := by
    intro b x1 f1 f2
    have j143 : ∀ s k, ∃ (ry' rp' : Int32) (ka' ba' ta' : Nat → Int32), F_X6_readsPin_j143 (nI (3 + 4 * m)) (nI m) ry ka ba ta sh tf tn s k = (0, ry', nI p, rp', ka', ba', ta') := by
      intro s k
      rw [F_X6_readsPin_j143, e1, f1]
      dsimp only
      rw [f2]
      dsimp only
      rw [if_pos (by decide)]
      exact ⟨_, _, _, _, _, rfl⟩
    have n0 : ¬ (0 : Int32) ≤ -9 := by decide
    rw [F_X6_readsPin_j59, e1, f1]
    dsimp only
    rw [f2]
    dsimp only
    rw [if_neg n0, F_X6_readsPin_j110]
    by_cases q1 : F_X6_codeAt (nI (3 + 4 * m) + 1) sh tf tn = 112
    · rw [if_pos q1]; exact j143 _ _
    rw [if_neg q1]
    by_cases q2 : F_X6_codeAt (nI (3 + 4 * m) + 1) sh tf tn = 99
    · rw [if_pos q2]; exact j143 _ _
    rw [if_neg q2]; exact j143 _ _
  have main : ∃ (ry' rp' : Int32) (ka' ba' ta' : Nat → Int32), F_X6_readsPin_j59 (nI (3 + 4 * m)) (nI m) ry ka ba ta sh tf tn = (0, ry', nI p, rp', ka', ba', ta') := by
    by_cases pc : p = 3 + 4 * m + 2
    · refine fin (-9) (nI p) ?_ (fig_neg).1
      rw [nI_1, pc]
      refine fig_no htf htn hN (by omega) (by decide) (by omega) (by omega) (by decide : (0 : Int32).toInt = 0) (by decide : (9 : Int32).toInt = 9) (fun q => ?_)
      have := hp.2.2 (by omega)
      rw [pc] at this
      exact (go_c hm' _).mp this
    · have pd : p = 3 + 4 * m + 3 := by omega
      have c2 : 48 ≤ (sh (f0 + (3 + 4 * m + 2))).toInt ∧ (sh (f0 + (3 + 4 * m + 2))).toInt ≤ 57 := Classical.byContradiction (fun q => hp.2.1 (3 + 4 * m + 2) (by omega) ((go_c hm' _).mpr q))
      refine fin (sh (f0 + (3 + 4 * m + 2)) - 48) (nI (3 + 4 * m + 3)) ?_ ?_
      · rw [show nI (3 + 4 * m + 1) + 1 = nI (3 + 4 * m + 2) from nI_1 _]; exact fig_ok htf htn hN (by omega) (by decide) (by omega) (by omega) (by decide : (0 : Int32).toInt = 0) (by decide : (9 : Int32).toInt = 9) (by omega)
      · rw [pd]
        refine fig_no htf htn hN (by omega) (c48 (b := 9) (by omega) (by omega)) (by omega) (by omega) (by decide : (0 : Int32).toInt = 0) (by decide : (9 : Int32).toInt = 9) (fun q => ?_)
        have := hp.2.2 (by omega)
        rw [pd] at this
        exact (go_d hm' _).mp this
  rw [cd (3 + 4 * m + 1) (by omega)]
  by_cases q1 : sh (f0 + (3 + 4 * m + 1)) = 112
  · rw [if_pos q1]; exact main
  rw [if_neg q1]
  by_cases q2 : sh (f0 + (3 + 4 * m + 1)) = 99
  · rw [if_pos q2]; exact main
  rw [if_neg q2]
  by_cases q3 : sh (f0 + (3 + 4 * m + 1)) = 100
  · rw [if_pos q3]; exact main
  rcases b0 with h | h | h
  · exact absurd h q1
  · exact absurd h q2
  · exact absurd h q3
theorem l80_0 {K : Int32 → Int32 → Int32 → Int32 → (Nat → Int32) → (Nat → Int32) → (Nat → Int32) → Int32 × Int32 × Int32 × Int32 × Int32 × Int32 × (Nat → Int32) × (Nat → Int32) × (Nat → Int32)} (d : Nat) (ry ra rp : Int32) (ka ba ta : Nat → Int32) : F_X6_readsWell_l80 sh tf tn K d 0 ry ra rp ka ba ta = K 0 ry ra rp ka ba ta := by
  cases d with
  | zero => rfl
  | succ d => rw [F_X6_readsWell_l80, if_pos rfl]
theorem rd_l (htf : tf = nI f0) (htn : tn = nI N) (hN : f0 + N ≤ 240) (hp : pref (fun t => sh (f0 + t)) N p)
    {K : Int32 → Int32 → Int32 → Int32 → (Nat → Int32) → (Nat → Int32) → (Nat → Int32) → Int32 × Int32 × Int32 × Int32 × Int32 × Int32 × (Nat → Int32) × (Nat → Int32) × (Nat → Int32)} : ∀ (r m d : Nat), m + r = 9 → r < d → 3 + 4 * m ≤ p →
    (∃ M, 1 ≤ M ∧ M ≤ 9 ∧ p = N ∧ N = 3 + 4 * M ∧ F_X6_readsWell_l80 sh tf tn K d 1 (ys (fun t => sh (f0 + t)) m) (nI (3 + 4 * m)) (nI m) (fillN ka (kv (fun t => sh (f0 + t))) m) (fillN ba (bv (fun t => sh (f0 + t))) m) (fillN ta (yv (fun t => sh (f0 + t))) m) = K 1 (ys (fun t => sh (f0 + t)) M) (nI N) (nI M) (fillN ka (kv (fun t => sh (f0 + t))) M) (fillN ba (bv (fun t => sh (f0 + t))) M) (fillN ta (yv (fun t => sh (f0 + t))) M)) ∨
    ((¬ ∃ M, 1 ≤ M ∧ p = N ∧ N = 3 + 4 * M) ∧ ∃ (ry' rp' : Int32) (ka' ba' ta' : Nat → Int32), F_X6_readsWell_l80 sh tf tn K d 1 (ys (fun t => sh (f0 + t)) m) (nI (3 + 4 * m)) (nI m) (fillN ka (kv (fun t => sh (f0 + t))) m) (fillN ba (bv (fun t => sh (f0 + t))) m) (fillN ta (yv (fun t => sh (f0 + t))) m) = K 0 ry' (nI p) rp' ka' ba' ta') := by
  have p39 := pref_39 hp
  have hpN := hp.1
  intro r
  induction r with
  | zero =>
    intro m d hm hd h3
    obtain ⟨d', rfl⟩ : ∃ d', d = d' + 1 := ⟨d - 1, by omega⟩
    have em : m = 9 := by omega
    subst em
    have ep : p = 39 := by omega
    subst ep
    have n0 : ¬ (1 : Int32) = 0 := by decide
    have n1 : ¬ nI 9 < 1 := by decide
    rw [F_X6_readsWell_l80, if_neg n0, if_neg n1]
    by_cases c : tn ≤ nI (3 + 4 * 9)
    · have : N ≤ 39 := by rw [htn] at c; exact (nI_leI (by omega) (by omega)).mp c
      have eN : N = 39 := by omega
      rw [if_pos c]
      exact Or.inl ⟨9, by omega, by omega, eN.symm, eN, by rw [eN]⟩
    · have hlt : 39 < N := by
        rcases Nat.lt_or_ge 39 N with q | q
        · exact q
        · exact absurd (by rw [htn]; exact nI_le q (by omega)) c
      rw [if_neg c]
      obtain ⟨ry', rp', ka', ba', ta', e⟩ := rp_no (ka := fillN ka (kv (fun t => sh (f0 + t))) 9) (ba := fillN ba (bv (fun t => sh (f0 + t))) 9) (ta := fillN ta (yv (fun t => sh (f0 + t))) 9) htf htn hN hp (m := 9) (by omega) (by omega) (by omega) (ys (fun t => sh (f0 + t)) 9)
      rw [e]
      dsimp only
      rw [l80_0]
      exact Or.inr ⟨fun ⟨M, h4, h5, h6⟩ => by omega, _, _, _, _, _, rfl⟩
  | succ r ih =>
    intro m d hm hd h3
    obtain ⟨d', rfl⟩ : ∃ d', d = d' + 1 := ⟨d - 1, by omega⟩
    have n0 : ¬ (1 : Int32) = 0 := by decide
    have hm' : m < 9 := by omega
    rw [F_X6_readsWell_l80, if_neg n0]
    have step : ¬ (1 ≤ m ∧ N ≤ 3 + 4 * m) → (∃ M, 1 ≤ M ∧ M ≤ 9 ∧ p = N ∧ N = 3 + 4 * M ∧ F_X6_readsWell_l80 sh tf tn K d' (F_X6_readsPin (nI (3 + 4 * m)) (nI m) (ys (fun t => sh (f0 + t)) m) (fillN ka (kv (fun t => sh (f0 + t))) m) (fillN ba (bv (fun t => sh (f0 + t))) m) (fillN ta (yv (fun t => sh (f0 + t))) m) sh tf tn).1 (F_X6_readsPin (nI (3 + 4 * m)) (nI m) (ys (fun t => sh (f0 + t)) m) (fillN ka (kv (fun t => sh (f0 + t))) m) (fillN ba (bv (fun t => sh (f0 + t))) m) (fillN ta (yv (fun t => sh (f0 + t))) m) sh tf tn).2.1 (F_X6_readsPin (nI (3 + 4 * m)) (nI m) (ys (fun t => sh (f0 + t)) m) (fillN ka (kv (fun t => sh (f0 + t))) m) (fillN ba (bv (fun t => sh (f0 + t))) m) (fillN ta (yv (fun t => sh (f0 + t))) m) sh tf tn).2.2.1 (F_X6_readsPin (nI (3 + 4 * m)) (nI m) (ys (fun t => sh (f0 + t)) m) (fillN ka (kv (fun t => sh (f0 + t))) m) (fillN ba (bv (fun t => sh (f0 + t))) m) (fillN ta (yv (fun t => sh (f0 + t))) m) sh tf tn).2.2.2.1 (F_X6_readsPin (nI (3 + 4 * m)) (nI m) (ys (fun t => sh (f0 + t)) m) (fillN ka (kv (fun t => sh (f0 + t))) m) (fillN ba (bv (fun t => sh (f0 + t))) m) (fillN ta (yv (fun t => sh (f0 + t))) m) sh tf tn).2.2.2.2.1 (F_X6_readsPin (nI (3 + 4 * m)) (nI m) (ys (fun t => sh (f0 + t)) m) (fillN ka (kv (fun t => sh (f0 + t))) m) (fillN ba (bv (fun t => sh (f0 + t))) m) (fillN ta (yv (fun t => sh (f0 + t))) m) sh tf tn).2.2.2.2.2.1 (F_X6_readsPin (nI (3 + 4 * m)) (nI m) (ys (fun t => sh (f0 + t)) m) (fillN ka (kv (fun t => sh (f0 + t))) m) (fillN ba (bv (fun t => sh (f0 + t))) m) (fillN ta (yv (fun t => sh (f0 + t))) m) sh tf tn).2.2.2.2.2.2 = K 1 (ys (fun t => sh (f0 + t)) M) (nI N) (nI M) (fillN ka (kv (fun t => sh (f0 + t))) M) (fillN ba (bv (fun t => sh (f0 + t))) M) (fillN ta (yv (fun t => sh (f0 + t))) M)) ∨
    ((¬ ∃ M, 1 ≤ M ∧ p = N ∧ N = 3 + 4 * M) ∧ ∃ (ry' rp' : Int32) (ka' ba' ta' : Nat → Int32), F_X6_readsWell_l80 sh tf tn K d' (F_X6_readsPin (nI (3 + 4 * m)) (nI m) (ys (fun t => sh (f0 + t)) m) (fillN ka (kv (fun t => sh (f0 + t))) m) (fillN ba (bv (fun t => sh (f0 + t))) m) (fillN ta (yv (fun t => sh (f0 + t))) m) sh tf tn).1 (F_X6_readsPin (nI (3 + 4 * m)) (nI m) (ys (fun t => sh (f0 + t)) m) (fillN ka (kv (fun t => sh (f0 + t))) m) (fillN ba (bv (fun t => sh (f0 + t))) m) (fillN ta (yv (fun t => sh (f0 + t))) m) sh tf tn).2.1 (F_X6_readsPin (nI (3 + 4 * m)) (nI m) (ys (fun t => sh (f0 + t)) m) (fillN ka (kv (fun t => sh (f0 + t))) m) (fillN ba (bv (fun t => sh (f0 + t))) m) (fillN ta (yv (fun t => sh (f0 + t))) m) sh tf tn).2.2.1 (F_X6_readsPin (nI (3 + 4 * m)) (nI m) (ys (fun t => sh (f0 + t)) m) (fillN ka (kv (fun t => sh (f0 + t))) m) (fillN ba (bv (fun t => sh (f0 + t))) m) (fillN ta (yv (fun t => sh (f0 + t))) m) sh tf tn).2.2.2.1 (F_X6_readsPin (nI (3 + 4 * m)) (nI m) (ys (fun t => sh (f0 + t)) m) (fillN ka (kv (fun t => sh (f0 + t))) m) (fillN ba (bv (fun t => sh (f0 + t))) m) (fillN ta (yv (fun t => sh (f0 + t))) m) sh tf tn).2.2.2.2.1 (F_X6_readsPin (nI (3 + 4 * m)) (nI m) (ys (fun t => sh (f0 + t)) m) (fillN ka (kv (fun t => sh (f0 + t))) m) (fillN ba (bv (fun t => sh (f0 + t))) m) (fillN ta (yv (fun t => sh (f0 + t))) m) sh tf tn).2.2.2.2.2.1 (F_X6_readsPin (nI (3 + 4 * m)) (nI m) (ys (fun t => sh (f0 + t)) m) (fillN ka (kv (fun t => sh (f0 + t))) m) (fillN ba (bv (fun t => sh (f0 + t))) m) (fillN ta (yv (fun t => sh (f0 + t))) m) sh tf tn).2.2.2.2.2.2 = K 0 ry' (nI p) rp' ka' ba' ta') := by
      intro hne
      rcases Nat.lt_or_ge p (3 + 4 * m + 4) with q | q
      · obtain ⟨ry', rp', ka', ba', ta', e⟩ := rp_no (ka := fillN ka (kv (fun t => sh (f0 + t))) m) (ba := fillN ba (bv (fun t => sh (f0 + t))) m) (ta := fillN ta (yv (fun t => sh (f0 + t))) m) htf htn hN hp (m := m) (by omega) h3 q (ys (fun t => sh (f0 + t)) m)
        rw [e]
        dsimp only
        rw [l80_0]
        exact Or.inr ⟨fun ⟨M, h4, h5, h6⟩ => by omega, _, _, _, _, _, rfl⟩
      · have ha : sh (f0 + (3 + 4 * m)) = 59 := Classical.byContradiction (fun z => hp.2.1 (3 + 4 * m) (by omega) ((go_a hm' _).mpr z))
        have hb : sh (f0 + (3 + 4 * m + 1)) = 112 ∨ sh (f0 + (3 + 4 * m + 1)) = 99 ∨ sh (f0 + (3 + 4 * m + 1)) = 100 := Classical.byContradiction (fun q => hp.2.1 (3 + 4 * m + 1) (by omega) ((go_b hm' _).mpr ⟨fun z => q (Or.inl z), fun z => q (Or.inr (Or.inl z)), fun z => q (Or.inr (Or.inr z))⟩))
        have hc : 48 ≤ (sh (f0 + (3 + 4 * m + 2))).toInt ∧ (sh (f0 + (3 + 4 * m + 2))).toInt ≤ 57 := Classical.byContradiction (fun q => hp.2.1 (3 + 4 * m + 2) (by omega) ((go_c hm' _).mpr q))
        have hd' : 48 ≤ (sh (f0 + (3 + 4 * m + 3))).toInt ∧ (sh (f0 + (3 + 4 * m + 3))).toInt ≤ 57 := Classical.byContradiction (fun q => hp.2.1 (3 + 4 * m + 3) (by omega) ((go_d hm' _).mpr q))
        rw [rp_ok htf htn hN hm' (by omega) ha hb hc hd']
        dsimp only
        have y1 : ys (fun t => sh (f0 + t)) m + (sh (f0 + (3 + 4 * m + 3)) - 48) = ys (fun t => sh (f0 + t)) (m + 1) := rfl
        rw [fillN_s, fillN_s, y1, show ys (fun t => sh (f0 + t)) (m + 1) = yv (fun t => sh (f0 + t)) m from rfl, fillN_s]
        have := ih (m + 1) d' (by omega) (by omega) (by omega)
        rw [show 3 + 4 * (m + 1) = 3 + 4 * m + 4 by omega] at this
        exact this
    by_cases c1 : nI m < 1
    · have m0 : m = 0 := by rw [zl_lt (z := 1) (by decide), nI_toInt (by omega)] at c1; omega
      rw [if_pos c1]
      exact step (by omega)
    · rw [if_neg c1]
      have m1 : 1 ≤ m := by
        rcases Nat.eq_zero_or_pos m with z | z
        · subst z; exact absurd (by decide) c1
        · exact z
      by_cases c : tn ≤ nI (3 + 4 * m)
      · have : N ≤ 3 + 4 * m := by rw [htn] at c; exact (nI_leI (by omega) (by omega)).mp c
        have eN : N = 3 + 4 * m := by omega
        rw [if_pos c]
        exact Or.inl ⟨m, m1, by omega, by omega, eN, by rw [eN]⟩
      · rw [if_neg c]
        exact step (fun z => c (by rw [htn]; exact nI_le z.2 (by omega)))
end Q11
