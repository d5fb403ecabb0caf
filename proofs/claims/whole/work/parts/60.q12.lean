/-- what holds of a well that lies there, or of none -/
def wellOK (pn sl dr nw : Int32) (kd bd yr : Nat → Int32) (Y : Nat) : Prop := ∃ np a b y : Nat, np ≤ 9 ∧ pn = nI np ∧ a ≤ 5 ∧ sl = nI a ∧ b ≤ 5 ∧ dr = nI b ∧ y ≤ Y ∧ nw = nI y ∧ ∀ i, i < np → (∃ k, k ≤ 2 ∧ kd i = nI k) ∧ (∃ v, v ≤ 9 ∧ bd i = nI v) ∧ (∃ t, t ≤ y ∧ yr i = nI t)
section Q12
variable {ss sa sh : Nat → Int32} {ln lg sl dr fl ti tn tf pn nw : Int32} {cl : Nat → Int32} {jj n a0 f0 N np p : Nat} {kd bd yr ka ba ta : Nat → Int32}
theorem rd_well (htf : tf = nI f0) (htn : tn = nI N) (hN : f0 + N ≤ 240) (hp : pref (fun t => sh (f0 + t)) N p) (rs rd : Int32) :
    (∃ M, 1 ≤ M ∧ M ≤ 9 ∧ p = N ∧ N = 3 + 4 * M ∧ F_X6_readsWell rs rd ka ba ta sh tf tn = (1, sh (f0 + 1) - 48, sh (f0 + 2) - 48, ys (fun t => sh (f0 + t)) M, nI N, nI M, fillN ka (kv (fun t => sh (f0 + t))) M, fillN ba (bv (fun t => sh (f0 + t))) M, fillN ta (yv (fun t => sh (f0 + t))) M)) ∨
    ((¬ ∃ M, 1 ≤ M ∧ p = N ∧ N = 3 + 4 * M) ∧ ∃ (rs' rd' ry' rp' : Int32) (ka' ba' ta' : Nat → Int32), F_X6_readsWell rs rd ka ba ta sh tf tn = (0, rs', rd', ry', nI p, rp', ka', ba', ta')) := by
  have hpN := hp.1
  rw [F_X6_readsWell]
  by_cases p0 : p = 0
  · have c0 : ¬ F_X6_codeAt 0 sh tf tn = 119 := by
      rcases Nat.eq_zero_or_pos N with q | q
      · have := code_out (sh := sh) (tf := tf) htn (t := 0) (by omega) (by omega)
        rw [show (0 : Int32) = nI 0 from rfl, this]; decide
      · have := code_in (sh := sh) htf htn hN (t := 0) q
        rw [show (0 : Int32) = nI 0 from rfl, this]
        have g := hp.2.2 (by omega)
        rw [p0] at g
        exact (go_0 _).mp g
    rw [if_neg c0, p0]
    exact Or.inr ⟨fun ⟨M, h1, h2, h3⟩ => by omega, _, _, _, _, _, _, _, rfl⟩
  have c0 : F_X6_codeAt 0 sh tf tn = 119 := by
    have := code_in (sh := sh) htf htn hN (t := 0) (by omega)
    rw [show (0 : Int32) = nI 0 from rfl, this]
    exact Classical.byContradiction (fun q => hp.2.1 0 (by omega) ((go_0 _).mpr q))
  rw [if_pos c0, show (0 : Int32) + 1 = nI 1 from rfl]
  have bad : ∀ (s1 x1 : Int32), F_X6_figure (nI 1) sh tf tn 0 1 5 = (s1, x1) → F_X6_figure x1 sh tf tn s1 0 5 = (-9, nI p) → p < 3 → ((∃ M, 1 ≤ M ∧ M ≤ 9 ∧ p = N ∧ N = 3 + 4 * M ∧ (if (F_X6_figure (F_X6_figure (nI 1) sh tf tn 0 1 5).2 sh tf tn (F_X6_figure (nI 1) sh tf tn 0 1 5).1 0 5).1 < 0 then F_X6_readsWell_j79 ka ba ta sh tf tn 0 else F_X6_readsWell_j79 ka ba ta sh tf tn 1) = (1, sh (f0 + 1) - 48, sh (f0 + 2) - 48, ys (fun t => sh (f0 + t)) M, nI N, nI M, fillN ka (kv (fun t => sh (f0 + t))) M, fillN ba (bv (fun t => sh (f0 + t))) M, fillN ta (yv (fun t => sh (f0 + t))) M)) ∨
      ((¬ ∃ M, 1 ≤ M ∧ p = N ∧ N = 3 + 4 * M) ∧ ∃ (rs' rd' ry' rp' : Int32) (ka' ba' ta' : Nat → Int32), (if (F_X6_figure (F_X6_figure (nI 1) sh tf tn 0 1 5).2 sh tf tn (F_X6_figure (nI 1) sh tf tn 0 1 5).1 0 5).1 < 0 then F_X6_readsWell_j79 ka ba ta sh tf tn 0 else F_X6_readsWell_j79 ka ba ta sh tf tn 1) = (0, rs', rd', ry', nI p, rp', ka', ba', ta'))) := by
    intro s1 x1 f1 f2 p3
    right
    refine ⟨fun ⟨M, h1, h2, h3⟩ => by omega, ?_⟩
    rw [f1]
    dsimp only
    rw [f2]
    dsimp only
    rw [if_pos (by decide), F_X6_readsWell_j79, l80_0, show (0 : Int32) + 1 = nI 1 from rfl, f1]
    dsimp only
    rw [f2, F_X6_readsWell_k80]
    exact ⟨_, _, _, _, _, _, _, rfl⟩
  by_cases p1 : p = 1
  · refine bad (-9) (nI p) ?_ (fig_neg).2 (by omega)
    rw [p1]
    refine fig_no htf htn hN (by omega) (by decide) (by omega : (0 : Int) ≤ 1) (by omega : (5 : Int) ≤ 9) (by decide : (1 : Int32).toInt = 1) (by decide : (5 : Int32).toInt = 5) (fun q => ?_)
    have := hp.2.2 (by omega)
    rw [p1] at this
    exact (go_1 _).mp this
  have h1 : 49 ≤ (sh (f0 + 1)).toInt ∧ (sh (f0 + 1)).toInt ≤ 53 := Classical.byContradiction (fun q => hp.2.1 1 (by omega) ((go_1 _).mpr q))
  have f1 : F_X6_figure (nI 1) sh tf tn 0 1 5 = (sh (f0 + 1) - 48, nI 2) := fig_ok htf htn hN (by omega) (by decide) (by omega : (0 : Int) ≤ 1) (by omega : (5 : Int) ≤ 9) (by decide : (1 : Int32).toInt = 1) (by decide : (5 : Int32).toInt = 5) (by omega)
  have s0 : 0 ≤ sh (f0 + 1) - 48 := c48 (b := 5) (by omega) (by omega)
  by_cases p2 : p = 2
  · refine bad _ _ f1 ?_ (by omega)
    rw [p2]
    refine fig_no htf htn hN (by omega) s0 (by omega : (0 : Int) ≤ 0) (by omega : (5 : Int) ≤ 9) (by decide : (0 : Int32).toInt = 0) (by decide : (5 : Int32).toInt = 5) (fun q => ?_)
    have := hp.2.2 (by omega)
    rw [p2] at this
    exact (go_2 _).mp this
  have h2 : 48 ≤ (sh (f0 + 2)).toInt ∧ (sh (f0 + 2)).toInt ≤ 53 := Classical.byContradiction (fun q => hp.2.1 2 (by omega) ((go_2 _).mpr q))
  have f2 : F_X6_figure (nI 2) sh tf tn (sh (f0 + 1) - 48) 0 5 = (sh (f0 + 2) - 48, nI 3) := fig_ok htf htn hN (by omega) s0 (by omega : (0 : Int) ≤ 0) (by omega : (5 : Int) ≤ 9) (by decide : (0 : Int32).toInt = 0) (by decide : (5 : Int32).toInt = 5) (by omega)
  have d0 : 0 ≤ sh (f0 + 2) - 48 := c48 (b := 5) (by omega) (by omega)
  rw [f1]
  dsimp only
  rw [f2]
  dsimp only
  rw [if_neg (Int32.not_lt.mpr d0), F_X6_readsWell_j79, show (0 : Int32) + 1 = nI 1 from rfl, f1]
  dsimp only
  rw [f2]
  dsimp only
  rcases rd_l (ka := ka) (ba := ba) (ta := ta) (K := F_X6_readsWell_k80 sh tf tn) htf htn hN hp 9 0 12 (by omega) (by omega) (by omega) with ⟨M, g1, g2, g3, g4, g5⟩ | ⟨g1, ry', rp', ka', ba', ta', g5⟩
  · left
    refine ⟨M, g1, g2, g3, g4, ?_⟩
    rw [fillN_0, fillN_0, fillN_0] at g5
    have g6 : F_X6_readsWell_l80 sh tf tn (F_X6_readsWell_k80 sh tf tn) 12 1 0 (nI 3) 0 ka ba ta = _ := g5
    rw [g6, F_X6_readsWell_k80, show (0 : Int32) + 1 = nI 1 from rfl, f1]
    dsimp only
    rw [f2]
  · right
    refine ⟨g1, ?_⟩
    rw [fillN_0, fillN_0, fillN_0] at g5
    have g6 : F_X6_readsWell_l80 sh tf tn (F_X6_readsWell_k80 sh tf tn) 12 1 0 (nI 3) 0 ka ba ta = _ := g5
    rw [g6, F_X6_readsWell_k80]
    exact ⟨_, _, _, _, _, _, _, rfl⟩
theorem cpw_l {rs rd k i n' s1 d1 y1 ra1 : Int32} {ka' ba' ta' : Nat → Int32} {M : Nat} (hM : M ≤ 9) (hrw : F_X6_readsWell rs rd ka ba ta sh ((60 : Int32) * k + i) n' = (1, s1, d1, y1, ra1, nI M, ka', ba', ta'))
    {K : Int32 → (Nat → Int32) → (Nat → Int32) → (Nat → Int32) → Int32 × Int32 × Int32 × Int32 × Int32 × Int32 × Int32 × Int32 × Int32 × Int32 × Int32 × Int32 × (Nat → Int32) × (Nat → Int32) × (Nat → Int32) × (Nat → Int32) × (Nat → Int32) × (Nat → Int32)} : ∀ (r m d : Nat), m + r = M → r < d →
    ∃ x, F_X6_well_l114 rs rd ka ba ta sh k i n' K d (nI m) (fillN kd ka' m) (fillN bd ba' m) (fillN yr ta' m) = K x (fillN kd ka' M) (fillN bd ba' M) (fillN yr ta' M) := by
  intro r
  induction r with
  | zero =>
    intro m d hm hd
    obtain ⟨d', rfl⟩ : ∃ d', d = d' + 1 := ⟨d - 1, by omega⟩
    have e : m = M := by omega
    subst e
    rw [F_X6_well_l114, hrw]
    dsimp only
    rw [if_pos (Int32.le_refl _)]
    exact ⟨_, rfl⟩
  | succ r ih =>
    intro m d hm hd
    obtain ⟨d', rfl⟩ : ∃ d', d = d' + 1 := ⟨d - 1, by omega⟩
    have c : ¬ nI M ≤ nI m := fun z => by have := (nI_leI (by omega) (by omega)).mp z; omega
    rw [F_X6_well_l114, hrw]
    dsimp only
    rw [if_neg c, nI_1, show (nI m).toNatClampNeg = m from nI_clamp (by omega), fillN_s, fillN_s, fillN_s]
    exact ih (m + 1) d' (by omega) (by omega)
theorem fillN_f (f g v : Nat → Int32) (M : Nat) : fillN f (fillN g v M) M = fillN f v M := by
  funext t
  rw [fillN, fillN, fillN]
  by_cases h : t < M
  · rw [if_pos h, if_pos h, if_pos h]
  · rw [if_neg h, if_neg h]
theorem n48 {c : Int32} {a b : Nat} (hb : b ≤ 9) (h : (a : Int) + 48 ≤ c.toInt ∧ c.toInt ≤ (b : Int) + 48) : ∃ v : Nat, a ≤ v ∧ v ≤ b ∧ c - 48 = nI v := by
  have h1 := (sub48 c a b (by omega) (by omega)).mpr h
  obtain ⟨v, h2, h3⟩ := nI_of (x := c - 48) (fun q => by have := (zl_lt (z := 0) (by decide)).mp q; omega)
  rw [h3, nI_toInt h2] at h1
  exact ⟨v, by omega, by omega, h3⟩
theorem ys_ok {c : Nat → Int32} : ∀ M : Nat, M ≤ 9 → (∀ m, m < M → 48 ≤ (c (3 + 4 * m + 3)).toInt ∧ (c (3 + 4 * m + 3)).toInt ≤ 57) → ∃ y : Nat, y ≤ 9 * M ∧ ys c M = nI y ∧ ∀ m, m < M → ∃ t, t ≤ y ∧ yv c m = nI t := by
  intro M
  induction M with
  | zero => intro _ _; exact ⟨0, by omega, rfl, fun m hm => by omega⟩
  | succ M ih =>
    intro hM h
    obtain ⟨y, h1, h2, h3⟩ := ih (by omega) (fun m hm => h m (by omega))
    obtain ⟨g, g1, g2, g3⟩ := n48 (c := c (3 + 4 * M + 3)) (a := 0) (b := 9) (by omega) (by have := h M (by omega); omega)
    refine ⟨y + g, by omega, by rw [ys, h2, g3, nI_add], fun m hm => ?_⟩
    rcases (by omega : m < M ∨ m = M) with q | q
    · obtain ⟨t, t1, t2⟩ := h3 m q
      exact ⟨t, by omega, t2⟩
    · subst q
      exact ⟨y + g, by omega, by rw [yv, ys, h2, g3, nI_add]⟩
theorem well_new {c : Nat → Int32} {M : Nat} (hM1 : 1 ≤ M) (hM : M ≤ 9) (hp : ∀ t, t < 3 + 4 * M → ¬ F_X5_goesOn (nI t) (c t) = 0) : wellOK (nI M) (c 1 - 48) (c 2 - 48) (ys c M) (fillN kd (kv c) M) (fillN bd (bv c) M) (fillN yr (yv c) M) 81 := by
  obtain ⟨y, y1, y2, y3⟩ := ys_ok (c := c) M hM (fun m hm => Classical.byContradiction (fun q => hp (3 + 4 * m + 3) (by omega) ((go_d (by omega) _).mpr q)))
  have h1 : 49 ≤ (c 1).toInt ∧ (c 1).toInt ≤ 53 := Classical.byContradiction (fun q => hp 1 (by omega) ((go_1 _).mpr q))
  have h2 : 48 ≤ (c 2).toInt ∧ (c 2).toInt ≤ 53 := Classical.byContradiction (fun q => hp 2 (by omega) ((go_2 _).mpr q))
  obtain ⟨a, a1, a2, a3⟩ := n48 (c := c 1) (a := 1) (b := 5) (by omega) (by omega)
  obtain ⟨b, b1, b2, b3⟩ := n48 (c := c 2) (a := 0) (b := 5) (by omega) (by omega)
  refine ⟨M, a, b, y, hM, rfl, a2, a3, b2, b3, by omega, y2, fun i hi => ⟨?_, ?_, ?_⟩⟩
  · rw [fillN, if_pos hi, kv]
    by_cases q1 : c (3 + 4 * i + 1) = 112
    · rw [if_pos q1]; exact ⟨0, by omega, rfl⟩
    rw [if_neg q1]
    by_cases q2 : c (3 + 4 * i + 1) = 99
    · rw [if_pos q2]; exact ⟨1, by omega, rfl⟩
    rw [if_neg q2]; exact ⟨2, by omega, rfl⟩
  · obtain ⟨v, v1, v2, v3⟩ := n48 (c := c (3 + 4 * i + 2)) (a := 0) (b := 9) (by omega) (by
      have : 48 ≤ (c (3 + 4 * i + 2)).toInt ∧ (c (3 + 4 * i + 2)).toInt ≤ 57 := Classical.byContradiction (fun q => hp (3 + 4 * i + 2) (by omega) ((go_c (by omega) _).mpr q))
      omega)
    exact ⟨v, v2, by rw [fillN, if_pos hi]; exact v3⟩
  · obtain ⟨t, t1, t2⟩ := y3 i hi
    exact ⟨t, t1, by rw [fillN, if_pos hi]; exact t2⟩
theorem kv_congr {c c' : Nat → Int32} {M : Nat} (h : ∀ t, t < 3 + 4 * M → c t = c' t) (f : Nat → Int32) : fillN f (kv c) M = fillN f (kv c') M ∧ fillN f (bv c) M = fillN f (bv c') M := by
  constructor <;> funext t <;> rw [fillN, fillN]
  · by_cases q : t < M
    · rw [if_pos q, if_pos q, kv, kv, h (3 + 4 * t + 1) (by omega)]
    · rw [if_neg q, if_neg q]
  · by_cases q : t < M
    · rw [if_pos q, if_pos q, bv, bv, h (3 + 4 * t + 2) (by omega)]
    · rw [if_neg q, if_neg q]
theorem st_well {k la rs rd ra rp ry rc : Int32} {ka ba ta : Nat → Int32} (hk : k = nI jj) (hj : jj < 4) (h : shR (ss jj) (sa jj) (fun i => sh (60 * jj + i)) ln lg cl) :
    ∃ (r f pn' rs' rd' ry' sl' rc' dr' nw' ra' rp' : Int32) (kd' bd' yr' ka' ba' ta' : Nat → Int32),
      F_X6_well fl pn sl dr nw ra rp rs rd ry rc kd bd yr ka ba ta ss sa sh k la ti tn = (r, f, pn', rs', rd', ry', sl', rc', dr', nw', ra', rp', kd', bd', yr', ka', ba', ta') ∧
      F_X5_well pn sl dr nw kd bd yr rc ln lg cl k la ti tn = (r, f, pn', sl', dr', nw', kd', bd', yr', rc') ∧
      ((pn' = pn ∧ sl' = sl ∧ dr' = dr ∧ nw' = nw ∧ kd' = kd ∧ bd' = bd ∧ yr' = yr ∧ rc' = rc) ∨ (rc' = 0 ∧ wellOK pn' sl' dr' nw' kd' bd' yr' 81)) := by
  obtain ⟨n1, n2, ek⟩ := nS hk hj
  rw [F_X5_well, F_X6_well, if_neg n1, if_pos n2]
  by_cases c1 : F_X5_isLane la = 0
  · rw [if_pos c1, if_pos ((isLane_in la).mp c1)]; exact ⟨_, _, _, _, _, _, _, _, _, _, _, _, _, _, _, _, _, _, rfl, rfl, Or.inl ⟨rfl, rfl, rfl, rfl, rfl, rfl, rfl, rfl⟩⟩
  rw [if_neg c1, if_neg (mt (isLane_in la).mpr c1), F_X3_faultAs, F_X6_cellsBarred, ek]
  rcases h with ⟨h1, h2, h3⟩ | ⟨n, a, h1, h2, h3, h4, h5, h6, h7⟩
  · rw [if_pos (hasRow_e.mpr h2), if_neg (show ¬ (1 : Int32) = 0 by decide), if_pos h1]
    dsimp only
    rw [if_neg (show ¬ (0 : Int32) ≤ (F_X6_failed 1).1 by decide)]
    exact ⟨_, _, _, _, _, _, _, _, _, _, _, _, _, _, _, _, _, _, rfl, rfl, Or.inl ⟨rfl, rfl, rfl, rfl, rfl, rfl, rfl, rfl⟩⟩
  have r : ¬ F_X3_hasRow ln = 0 := fun q => nI_ne_m1 (by omega) (h6.symm.trans (hasRow_e.mp q))
  have p : ¬ ss jj < 0 := by rw [h3]; exact nI_pos (by omega)
  rw [if_neg r, if_neg p, h5, h6]
  by_cases c2 : nI a = la
  case neg =>
    rw [if_neg c2, if_neg c2, if_neg (show ¬ (2 : Int32) = 0 by decide)]
    dsimp only
    rw [if_neg (show ¬ (0 : Int32) ≤ (F_X6_failed 2).1 by decide)]
    exact ⟨_, _, _, _, _, _, _, _, _, _, _, _, _, _, _, _, _, _, rfl, rfl, Or.inl ⟨rfl, rfl, rfl, rfl, rfl, rfl, rfl, rfl⟩⟩
  have g : 0 ≤ lg_cmp tn.toInt64 (0 : Int64) ↔ 0 ≤ tn := by
    have e := lg_lt tn.toInt64 0
    rw [l_ti, show (0 : Int64).toInt = 0 by decide] at e
    constructor
    · intro q
      have := mt e.mpr (Int32.not_lt.mpr q)
      rw [zl_ge (z := 0) (by decide)]; omega
    · intro q
      rw [zl_ge (z := 0) (by decide)] at q
      exact Int32.not_lt.mp (mt e.mp (by omega))
  rw [if_pos c2, if_pos c2, if_pos rfl]
  by_cases c3 : 0 ≤ tn
  case neg =>
    rw [if_neg c3, if_neg (mt g.mp c3)]
    dsimp only
    rw [if_neg (show ¬ (0 : Int32) ≤ (F_X6_failed 4).1 by decide)]
    exact ⟨_, _, _, _, _, _, _, _, _, _, _, _, _, _, _, _, _, _, rfl, rfl, Or.inl ⟨rfl, rfl, rfl, rfl, rfl, rfl, rfl, rfl⟩⟩
  rw [if_pos c3, if_pos (g.mpr c3), h4, h3]
  by_cases c4 : F_X3_hasCells (nI n) ti tn = 0
  · rw [if_pos c4, if_neg ((hasCells_e h1 ti tn).mp c4)]
    dsimp only
    rw [if_neg (show ¬ (0 : Int32) ≤ (F_X6_failed 3).1 by decide)]
    exact ⟨_, _, _, _, _, _, _, _, _, _, _, _, _, _, _, _, _, _, rfl, rfl, Or.inl ⟨rfl, rfl, rfl, rfl, rfl, rfl, rfl, rfl⟩⟩
  have d1 : F_X6_isBeyond ti tn.toInt64 (nI n) = 0 := Classical.byContradiction (fun q => c4 ((hasCells_e h1 ti tn).mpr q))
  rw [if_neg c4, if_pos d1]
  dsimp only
  rw [if_pos (Int32.le_refl 0)]
  obtain ⟨a0, N, e1, e2, e3⟩ := beyond_h h1 ti tn c4
  have htf : (60 : Int32) * k + ti = nI (60 * jj + a0) := sheet_e hk e1
  have hc : ∀ t, t < N → F_X3_at (nI n) cl (ti + nI t) = sh (60 * jj + a0 + t) := fun t ht => by
    rw [e1, nI_add, at_e h1 (by omega), h7 (a0 + t) (by omega), Nat.add_assoc]
  obtain ⟨p, hp, hff⟩ := ff_l (lg := nI n) (cl := cl) (ti := ti) e2 (by omega) (c := fun t => sh (60 * jj + a0 + t)) hc N 0 61 (by omega) (by omega) (fun t ht => by omega)
  have hff' : F_X5_firstFault (nI n) cl ti tn = if p < N then nI p else F_X5_firstFault_k2 tn tn := hff
  have hpN := hp.1
  have p39 := pref_39 hp
  rcases rd_well (ka := ka) (ba := ba) (ta := ta) htf e2 (by omega) hp rs rd with ⟨M, g1, g2, g3, g4, g5⟩ | ⟨g1, rs', rd', ry', rp', ka', ba', ta', g5⟩
  · have k2 : F_X5_firstFault_k2 tn tn = -9 := by
      have m7 : ¬ tn < 7 := by rw [zl_lt (z := 7) (by decide), z_tiN e2 (by omega)]; omega
      have m4 : tn - 3 - (tn - 3) / 4 * 4 = 0 := by
        rw [e2, show nI N - 3 = nI (N - 3) from pk_sub (b := 3) (by omega), show (4 : Int32) = nI 4 from rfl, pk_rem (by omega) (by decide) (by decide), show (N - 3) % 4 = 0 by omega]; rfl
      rw [F_X5_firstFault_k2, if_neg m7, if_pos m4]
    have n1 : ¬ (1 : Int32) = 0 := by decide
    have npN : ¬ p < N := by omega
    rw [hff', if_neg npN, k2, g5]
    dsimp only
    rw [if_neg n1, if_pos rfl]
    obtain ⟨x, q1⟩ := cpw_l (kd := kd) (bd := bd) (yr := yr) (K := F_X6_well_k114 rs rd ka ba ta sh k ti tn) g2 g5 M 0 10 (by omega) (by omega)
    rw [fillN_0, fillN_0, fillN_0] at q1
    have q1' : F_X6_well_l114 rs rd ka ba ta sh k ti tn (F_X6_well_k114 rs rd ka ba ta sh k ti tn) 10 0 kd bd yr = _ := q1
    rw [q1', F_X6_well_k114, g5]
    dsimp only
    rw [fillN_f, fillN_f, fillN_f]
    subst g4
    obtain ⟨x2, q2⟩ := fill_l (lg := nI n) (cl := cl) (kd := kd) (bd := bd) (yr := yr) (K := F_X4_fill_k43 (nI n) cl ti) g2 e1 e2 (by omega) (c := fun t => sh (60 * jj + a0 + t)) (fun t ht => by rw [at_e h1 (by omega), h7 (a0 + t) (by omega), Nat.add_assoc]) M 0 64 (by omega) (by omega)
    rw [fillN_0, fillN_0, fillN_0] at q2
    have q2' : F_X4_fill kd bd yr (nI n) cl ti tn = (nI M, F_X3_at (nI n) cl (ti + 1) - 48, F_X3_at (nI n) cl (ti + 2) - 48, ys (fun t => sh (60 * jj + a0 + t)) M, fillN kd (kv (fun t => sh (60 * jj + a0 + t))) M, fillN bd (bv (fun t => sh (60 * jj + a0 + t))) M, fillN yr (yv (fun t => sh (60 * jj + a0 + t))) M) := by
      rw [F_X4_fill, e1, show nI a0 + 3 = nI (a0 + 3) from nI_add a0 3, ← e1]
      exact q2
    have a1 : F_X3_at (nI n) cl (ti + 1) = sh (60 * jj + a0 + 1) := hc 1 (by omega)
    have a2 : F_X3_at (nI n) cl (ti + 2) = sh (60 * jj + a0 + 2) := hc 2 (by omega)
    rw [q2', a1, a2]
    exact ⟨_, _, _, _, _, _, _, _, _, _, _, _, _, _, _, _, _, _, rfl, rfl, Or.inr ⟨rfl, well_new g1 g2 (fun t ht => hp.2.1 t (by omega))⟩⟩
  · have np : ¬ F_X5_firstFault (nI n) cl ti tn = -9 ∧ F_X5_firstFault (nI n) cl ti tn = nI p := by
      rw [hff']
      by_cases q : p < N
      · rw [if_pos q]; exact ⟨fun z => by have := nI_pos (n := p) (by omega); rw [z] at this; exact this (by decide), rfl⟩
      · have ep : p = N := by omega
        rw [if_neg q, F_X5_firstFault_k2, ep]
        have fin : ¬ tn = -9 ∧ tn = nI N := ⟨fun z => by rw [z] at c3; exact absurd c3 (by decide), e2⟩
        by_cases m7 : tn < 7
        · rw [if_pos m7]; exact fin
        · rw [if_neg m7]
          by_cases m4 : tn - 3 - (tn - 3) / 4 * 4 = 0
          · exfalso
            have n7 : 7 ≤ N := by have := mt (zl_lt (x := tn) (k := 7) (z := 7) (by decide)).mpr m7; rw [z_tiN e2 (by omega)] at this; omega
            rw [e2, show nI N - 3 = nI (N - 3) from pk_sub (b := 3) (by omega), show (4 : Int32) = nI 4 from rfl, pk_rem (by omega) (by decide) (by decide)] at m4
            have := nI_inj (a := (N - 3) % 4) (b := 0) (by omega) (by omega) m4
            exact g1 ⟨(N - 3) / 4, by omega, ep, by omega⟩
          · rw [if_neg m4]; exact fin
    rw [if_neg np.1, np.2, g5]
    dsimp only
    rw [if_pos rfl]
    exact ⟨_, _, _, _, _, _, _, _, _, _, _, _, _, _, _, _, _, _, rfl, rfl, Or.inl ⟨rfl, rfl, rfl, rfl, rfl, rfl, rfl, rfl⟩⟩
end Q12
