section Q10
variable {ss sa sh : Nat → Int32} {ln lg sl dr fl ti tn tf pn nw : Int32} {cl : Nat → Int32} {jj n a0 f0 N np : Nat} {kd bd yr ka ba ta : Nat → Int32}
theorem go_0 (c : Int32) : F_X5_goesOn (nI 0) c = 0 ↔ ¬ c = 119 := by
  rw [F_X5_goesOn, if_pos (by decide)]
  by_cases h : c = 119
  · rw [if_pos h]; exact ⟨fun q => absurd q (by decide), fun q => absurd h q⟩
  · rw [if_neg h]; exact ⟨fun _ => h, fun _ => rfl⟩
theorem rng (c lo hi : Int32) (a b : Int) (ha : lo.toInt = a) (hb : hi.toInt = b) : (if c < lo then (0 : Int32) else if hi < c then 0 else 1) = 0 ↔ ¬ (a ≤ c.toInt ∧ c.toInt ≤ b) := by
  have h1 := zl_lt (x := c) ha
  have h2 := zl_gt (x := c) hb
  by_cases c1 : c < lo
  · rw [if_pos c1]; have := h1.mp c1; exact ⟨fun _ => by omega, fun _ => rfl⟩
  · rw [if_neg c1, ite01, h2]; have := mt h1.mpr c1; omega
theorem go_1 (c : Int32) : F_X5_goesOn (nI 1) c = 0 ↔ ¬ (49 ≤ c.toInt ∧ c.toInt ≤ 53) := by
  rw [F_X5_goesOn, if_neg (by decide), if_pos (by decide)]; exact rng c 49 53 49 53 (by decide) (by decide)
theorem go_2 (c : Int32) : F_X5_goesOn (nI 2) c = 0 ↔ ¬ (48 ≤ c.toInt ∧ c.toInt ≤ 53) := by
  rw [F_X5_goesOn, if_neg (by decide), if_neg (by decide), if_pos (by decide)]; exact rng c 48 53 48 53 (by decide) (by decide)
theorem go_big {t : Nat} (ht : 39 ≤ t) (h2 : t < 1000) (c : Int32) : F_X5_goesOn (nI t) c = 0 := by
  have e : ∀ k : Nat, k < 39 → ¬ nI t = nI k := fun k hk q => by have := nI_inj (by omega) (by omega) q; omega
  have n39 : ¬ nI t < 39 := by rw [zl_lt (z := 39) (by decide), nI_toInt (by omega)]; omega
  have z0 : ¬ nI t = (0 : Int32) := e 0 (by omega)
  have z1 : ¬ nI t = (1 : Int32) := e 1 (by omega)
  have z2 : ¬ nI t = (2 : Int32) := e 2 (by omega)
  rw [F_X5_goesOn, if_neg z0, if_neg z1, if_neg z2, if_neg n39]
theorem go_mid {t q : Nat} (h3 : 3 ≤ t) (h39 : t < 39) (hq : (t - 3) % 4 = q) (c : Int32) : F_X5_goesOn (nI t) c = (if nI q = 0 then (if c = 59 then 1 else 0) else if nI q = 1 then (if c = 112 then 1 else if c = 99 then 1 else if c = 100 then 1 else 0) else if c < 48 then 0 else if 57 < c then 0 else 1) := by
  have e : ∀ k : Nat, k < 3 → ¬ nI t = nI k := fun k hk q => by have := nI_inj (by omega) (by omega) q; omega
  have p39 : nI t < 39 := by rw [zl_lt (z := 39) (by decide), nI_toInt (by omega)]; omega
  have e2 : nI t - 3 - (nI t - 3) / 4 * 4 = nI q := by
    rw [show nI t - 3 = nI (t - 3) from pk_sub (b := 3) h3, show (4 : Int32) = nI 4 from rfl, pk_rem (by omega) (by decide) (by decide), hq]
  have z0 : ¬ nI t = (0 : Int32) := e 0 (by omega)
  have z1 : ¬ nI t = (1 : Int32) := e 1 (by omega)
  have z2 : ¬ nI t = (2 : Int32) := e 2 (by omega)
  rw [F_X5_goesOn, if_neg z0, if_neg z1, if_neg z2, if_pos p39, e2]
theorem go_a {m : Nat} (hm : m < 9) (c : Int32) : F_X5_goesOn (nI (3 + 4 * m)) c = 0 ↔ ¬ c = 59 := by
  rw [go_mid (q := 0) (by omega) (by omega) (by omega), if_pos (by decide)]
  by_cases h : c = 59
  · rw [if_pos h]; exact ⟨fun q => absurd q (by decide), fun q => absurd h q⟩
  · rw [if_neg h]; exact ⟨fun _ => h, fun _ => rfl⟩
theorem go_b {m : Nat} (hm : m < 9) (c : Int32) : F_X5_goesOn (nI (3 + 4 * m + 1)) c = 0 ↔ ¬ c = 112 ∧ ¬ c = 99 ∧ ¬ c = 100 := by
  rw [go_mid (q := 1) (by omega) (by omega) (by omega), if_neg (by decide), if_pos (by decide)]
  by_cases h : c = 112
  · rw [if_pos h]; exact ⟨fun q => absurd q (by decide), fun q => absurd h q.1⟩
  rw [if_neg h]
  by_cases h2 : c = 99
  · rw [if_pos h2]; exact ⟨fun q => absurd q (by decide), fun q => absurd h2 q.2.1⟩
  rw [if_neg h2]
  by_cases h3 : c = 100
  · rw [if_pos h3]; exact ⟨fun q => absurd q (by decide), fun q => absurd h3 q.2.2⟩
  · rw [if_neg h3]; exact ⟨fun _ => ⟨h, h2, h3⟩, fun _ => rfl⟩
theorem go_c {m : Nat} (hm : m < 9) (c : Int32) : F_X5_goesOn (nI (3 + 4 * m + 2)) c = 0 ↔ ¬ (48 ≤ c.toInt ∧ c.toInt ≤ 57) := by
  rw [go_mid (q := 2) (by omega) (by omega) (by omega), if_neg (by decide), if_neg (by decide)]; exact rng c 48 57 48 57 (by decide) (by decide)
theorem go_d {m : Nat} (hm : m < 9) (c : Int32) : F_X5_goesOn (nI (3 + 4 * m + 3)) c = 0 ↔ ¬ (48 ≤ c.toInt ∧ c.toInt ≤ 57) := by
  rw [go_mid (q := 3) (by omega) (by omega) (by omega), if_neg (by decide), if_neg (by decide)]; exact rng c 48 57 48 57 (by decide) (by decide)
/-- the longest prefix whose codes fit -/
def pref (c : Nat → Int32) (N p : Nat) : Prop := p ≤ N ∧ (∀ t, t < p → ¬ F_X5_goesOn (nI t) (c t) = 0) ∧ (p < N → F_X5_goesOn (nI p) (c p) = 0)
theorem ff_l (htn : tn = nI N) (hN : N ≤ 60) {c : Nat → Int32} (hc : ∀ t, t < N → F_X3_at lg cl (ti + nI t) = c t) : ∀ (r x d : Nat), x + r = N → r < d → (∀ t, t < x → ¬ F_X5_goesOn (nI t) (c t) = 0) →
    ∃ p, pref c N p ∧ F_X5_firstFault_l2 lg cl ti tn (F_X5_firstFault_k2 tn) d (nI x) = if p < N then nI p else F_X5_firstFault_k2 tn tn := by
  intro r
  induction r with
  | zero =>
    intro x d hx hd h
    obtain ⟨d', rfl⟩ : ∃ d', d = d' + 1 := ⟨d - 1, by omega⟩
    have e : x = N := by omega
    subst e
    refine ⟨x, ⟨Nat.le_refl _, h, fun q => absurd q (Nat.lt_irrefl _)⟩, ?_⟩
    have cc : tn ≤ nI x := by rw [htn]; exact Int32.le_refl _
    rw [F_X5_firstFault_l2, if_pos cc, if_neg (Nat.lt_irrefl _), htn]
  | succ r ih =>
    intro x d hx hd h
    obtain ⟨d', rfl⟩ : ∃ d', d = d' + 1 := ⟨d - 1, by omega⟩
    have cc : ¬ tn ≤ nI x := fun z => by rw [htn] at z; have := (nI_leI (by omega) (by omega)).mp z; omega
    rw [F_X5_firstFault_l2, if_neg cc, hc x (by omega)]
    by_cases g : F_X5_goesOn (nI x) (c x) = 0
    · rw [if_pos g]
      exact ⟨x, ⟨by omega, h, fun _ => g⟩, by rw [if_pos (by omega)]⟩
    · rw [if_neg g, nI_1]
      refine ih (x + 1) d' (by omega) (by omega) (fun t ht => ?_)
      rcases (by omega : t = x ∨ t < x) with z | z
      · rw [z]; exact g
      · exact h t z
theorem code_in (htf : tf = nI f0) (htn : tn = nI N) (hN : f0 + N ≤ 240) {t : Nat} (ht : t < N) : F_X6_codeAt (nI t) sh tf tn = sh (f0 + t) := by
  have c : ¬ tn ≤ nI t := fun z => by rw [htn] at z; have := (nI_leI (by omega) (by omega)).mp z; omega
  rw [F_X6_codeAt, if_neg c, htf, nI_add, show (nI (f0 + t)).toNatClampNeg = f0 + t from nI_clamp (by omega)]
theorem code_out (htn : tn = nI N) {t : Nat} (ht : N ≤ t) (h : t < 1000) : F_X6_codeAt (nI t) sh tf tn = -9 := by
  have c : tn ≤ nI t := by rw [htn]; exact nI_le ht (by omega)
  rw [F_X6_codeAt, if_pos c]
theorem sub48 (c : Int32) (a b : Int) (h0 : 0 ≤ a) (h9 : b ≤ 9) : (a ≤ (c - 48).toInt ∧ (c - 48).toInt ≤ b) ↔ (a + 48 ≤ c.toInt ∧ c.toInt ≤ b + 48) := by
  have h1 := Int32.le_toInt c
  have h2 := Int32.toInt_lt c
  rw [Int32.toInt_sub, show (48 : Int32).toInt = 48 by decide]
  rcases (by omega : c.toInt - 48 < -2147483648 ∨ -2147483648 ≤ c.toInt - 48) with q | q
  · have : (c.toInt - 48).bmod 4294967296 = c.toInt - 48 + 4294967296 := by
      rw [← Int.add_mul_bmod_self_left (c.toInt - 48) 4294967296 1]
      rw [Int.bmod_eq_of_le (by omega) (by omega)]
      omega
    rw [this]; omega
  · rw [Int.bmod_eq_of_le (by omega) (by omega)]; omega
theorem fig_ok (htf : tf = nI f0) (htn : tn = nI N) (hN : f0 + N ≤ 240) {t : Nat} (ht : t < N) {ah lw hg : Int32} {a b : Int} (hah : 0 ≤ ah) (h0 : 0 ≤ a) (h9 : b ≤ 9) (hl : lw.toInt = a) (hh : hg.toInt = b) (hr : a + 48 ≤ (sh (f0 + t)).toInt ∧ (sh (f0 + t)).toInt ≤ b + 48) : F_X6_figure (nI t) sh tf tn ah lw hg = (sh (f0 + t) - 48, nI (t + 1)) := by
  have q := (sub48 (sh (f0 + t)) a b h0 h9).mpr hr
  have n : ¬ F_X6_in (sh (f0 + t) - 48).toInt64 lw.toInt64 hg.toInt64 = 0 := fun z => by
    have := (in_iff _ _ _).mp z
    rw [l_ti, l_ti, l_ti, hl, hh] at this; omega
  rw [F_X6_figure, if_pos hah, code_in htf htn hN ht, if_neg n, nI_1]
theorem fig_no (htf : tf = nI f0) (htn : tn = nI N) (hN : f0 + N ≤ 240) {t : Nat} (ht : t ≤ N) {ah lw hg : Int32} {a b : Int} (hah : 0 ≤ ah) (h0 : 0 ≤ a) (h9 : b ≤ 9) (hl : lw.toInt = a) (hh : hg.toInt = b) (hr : t < N → ¬ (a + 48 ≤ (sh (f0 + t)).toInt ∧ (sh (f0 + t)).toInt ≤ b + 48)) : F_X6_figure (nI t) sh tf tn ah lw hg = (-9, nI t) := by
  have z0 : nI t + 0 = nI t := Int32.add_zero _
  have y : F_X6_in (F_X6_codeAt (nI t) sh tf tn - 48).toInt64 lw.toInt64 hg.toInt64 = 0 := by
    rw [in_iff, l_ti, l_ti, l_ti, hl, hh]
    rcases Nat.lt_or_ge t N with q | q
    · rw [code_in htf htn hN q]
      have := hr q
      rw [← sub48 _ _ _ h0 h9] at this
      omega
    · rw [code_out htn q (by omega), show ((-9 : Int32) - 48).toInt = -57 by decide]; omega
  rw [F_X6_figure, if_pos hah, if_pos y, z0]
theorem fig_neg {ra : Int32} : F_X6_figure ra sh tf tn (-9) 0 9 = (-9, ra) ∧ F_X6_figure ra sh tf tn (-9) 0 5 = (-9, ra) := by
  have z0 : ra + 0 = ra := Int32.add_zero _
  constructor <;> rw [F_X6_figure, if_neg (by decide), if_pos (by decide), z0]
/-- what a text says of its pins -/
def kv (c : Nat → Int32) (m : Nat) : Int32 := if c (3 + 4 * m + 1) = 112 then 0 else if c (3 + 4 * m + 1) = 99 then 1 else 2
def bv (c : Nat → Int32) (m : Nat) : Int32 := c (3 + 4 * m + 2) - 48
def ys (c : Nat → Int32) : Nat → Int32
  | 0 => 0
  | m + 1 => ys c m + (c (3 + 4 * m + 3) - 48)
def yv (c : Nat → Int32) (m : Nat) : Int32 := ys c (m + 1)
def fillN (f v : Nat → Int32) (m : Nat) : Nat → Int32 := fun t => if t < m then v t else f t
theorem fillN_0 (f v : Nat → Int32) : fillN f v 0 = f := by funext t; exact if_neg (Nat.not_lt_zero t)
theorem fillN_s (f v : Nat → Int32) (m : Nat) : upd (fillN f v m) m (v m) = fillN f v (m + 1) := by
  funext t
  by_cases h : t = m
  · rw [h, pk_us, fillN, if_pos (by omega)]
  · rw [pk_un h, fillN, fillN]
    by_cases h2 : t < m
    · rw [if_pos h2, if_pos (by omega)]
    · rw [if_neg h2, if_neg (by omega)]
theorem fill_l {M : Nat} (hM : M ≤ 9) (hti : ti = nI a0) (htn : tn = nI (3 + 4 * M)) (ha : a0 + (3 + 4 * M) ≤ 60) {c : Nat → Int32} (hc : ∀ t, t < 3 + 4 * M → F_X3_at lg cl (nI (a0 + t)) = c t)
    {K : Int32 → Int32 → Int32 → (Nat → Int32) → (Nat → Int32) → (Nat → Int32) → Int32 × Int32 × Int32 × Int32 × (Nat → Int32) × (Nat → Int32) × (Nat → Int32)} : ∀ (r m d : Nat), m + r = M → r < d →
    ∃ x, F_X4_fill_l43 lg cl ti tn K d (nI (a0 + (3 + 4 * m))) (nI m) (ys c m) (fillN kd (kv c) m) (fillN bd (bv c) m) (fillN yr (yv c) m) = K x (nI M) (ys c M) (fillN kd (kv c) M) (fillN bd (bv c) M) (fillN yr (yv c) M) := by
  intro r
  induction r with
  | zero =>
    intro m d hm hd
    obtain ⟨d', rfl⟩ : ∃ d', d = d' + 1 := ⟨d - 1, by omega⟩
    have e : m = M := by omega
    subst e
    have cc : ti + tn ≤ nI (a0 + (3 + 4 * m)) := by rw [hti, htn, nI_add]; exact Int32.le_refl _
    exact ⟨_, by rw [F_X4_fill_l43, if_pos cc]⟩
  | succ r ih =>
    intro m d hm hd
    obtain ⟨d', rfl⟩ : ∃ d', d = d' + 1 := ⟨d - 1, by omega⟩
    have cc : ¬ ti + tn ≤ nI (a0 + (3 + 4 * m)) := fun z => by
      rw [hti, htn, nI_add] at z
      have := (nI_leI (by omega) (by omega)).mp z
      omega
    have e1 : F_X3_at lg cl (nI (a0 + (3 + 4 * m)) + 1) = c (3 + 4 * m + 1) := by rw [nI_1]; exact hc (3 + 4 * m + 1) (by omega)
    have e2 : F_X3_at lg cl (nI (a0 + (3 + 4 * m)) + 2) = c (3 + 4 * m + 2) := by rw [show (2 : Int32) = nI 2 from rfl, nI_add]; exact hc (3 + 4 * m + 2) (by omega)
    have e3 : F_X3_at lg cl (nI (a0 + (3 + 4 * m)) + 3) = c (3 + 4 * m + 3) := by rw [show (3 : Int32) = nI 3 from rfl, nI_add]; exact hc (3 + 4 * m + 3) (by omega)
    have e4 : nI (a0 + (3 + 4 * m)) + 4 = nI (a0 + (3 + 4 * (m + 1))) := by rw [show (4 : Int32) = nI 4 from rfl, nI_add]; congr 1
    have em : (nI m).toNatClampNeg = m := nI_clamp (by omega)
    have nm : ¬ nI m < 0 := nI_pos (by omega)
    have m9 : nI m < 9 := by rw [zl_lt (z := 9) (by decide), nI_toInt (by omega)]; omega
    have at' : ∀ k : Int32, k = kv c m → F_X4_addTop (nI m) (ys c m + (c (3 + 4 * m + 3) - 48)) (fillN kd (kv c) m) (fillN bd (bv c) m) (fillN yr (yv c) m) k (c (3 + 4 * m + 2) - 48) = (1, nI (m + 1), fillN kd (kv c) (m + 1), fillN bd (bv c) (m + 1), fillN yr (yv c) (m + 1)) := fun k hk => by
      rw [F_X4_addTop, if_neg nm, if_pos m9, em, nI_1, hk, fillN_s, show c (3 + 4 * m + 2) - 48 = bv c m from rfl, fillN_s, show ys c m + (c (3 + 4 * m + 3) - 48) = yv c m from rfl, fillN_s]
    have ey : ys c m + (c (3 + 4 * m + 3) - 48) = ys c (m + 1) := rfl
    rw [F_X4_fill_l43, if_neg cc, e1, e2, e3, e4]
    by_cases c1 : c (3 + 4 * m + 1) = 112
    · rw [if_pos c1, at' 0 (by rw [kv, if_pos c1])]
      dsimp only
      rw [ey]; exact ih (m + 1) d' (by omega) (by omega)
    rw [if_neg c1]
    by_cases c2 : c (3 + 4 * m + 1) = 99
    · rw [if_pos c2, at' 1 (by rw [kv, if_neg c1, if_pos c2])]
      dsimp only
      rw [ey]; exact ih (m + 1) d' (by omega) (by omega)
    rw [if_neg c2, at' 2 (by rw [kv, if_neg c1, if_neg c2])]
    dsimp only
    rw [ey]; exact ih (m + 1) d' (by omega) (by omega)
end Q10
