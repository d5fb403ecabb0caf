section Q14
variable {lp pn sl dr tf pl : Int32} {cs wa ko bo yo sh wo : Nat → Int32} {S W : Nat → Nat} {np f0 p0 : Nat}
theorem pr_spec {c : Nat → Nat} {p r w : Nat} (hw : W p = w) (h6 : w < 6) : pr (fun x => fall (c x) (dem W p (r + 1) x)) = c w * pr (fun x => fall (dec1 c w x) (dem W (p + 1) r x)) := by
  have e1 : pr (fun x => fall (c x) (dem W p (r + 1) x)) = pr (at1 (fun x => fall (c x) (dem W (p + 1) r x)) w (c w * fall (c w - 1) (dem W (p + 1) r w))) := pr_congr (fun x _ => by
    by_cases hx : x = w
    · subst hx
      rw [at1_s, dem, hw, if_pos rfl, Nat.add_comm 1]; rfl
    · rw [at1_n hx, dem, hw, if_neg (fun z => hx z.symm), Nat.zero_add])
  have e2 : pr (fun x => fall (dec1 c w x) (dem W (p + 1) r x)) = pr (at1 (fun x => fall (c x) (dem W (p + 1) r x)) w (fall (c w - 1) (dem W (p + 1) r w))) := pr_congr (fun x _ => by
    by_cases hx : x = w
    · subst hx
      rw [at1_s, dec1, at1_s]
    · rw [at1_n hx, dec1, at1_n hx])
  rw [e1, e2]
  rcases (by omega : w = 0 ∨ w = 1 ∨ w = 2 ∨ w = 3 ∨ w = 4 ∨ w = 5) with rfl | rfl | rfl | rfl | rfl | rfl <;> (simp only [pr, at1]; simp; ac_rfl)
theorem cwc_l (hlp : lp = nI np) (hnp : np ≤ 9) (hwa : ∀ p, p < np → wa p = nI (W p)) (hW : ∀ p, p < np → W p ≤ 6) : ∀ (r p d f x1 : Nat) (c : Nat → Nat) (sp : Nat → Int32), p + r = np → r < d → (∀ x, x < 6 → c x ≤ 9) → (∀ x, x < 6 → sp x = nI (c x)) →
    ∃ sp' : Nat → Int32, F_X1_countWays_l6 lp wa F_X1_countWays_k6 d (nI x1) (nI f) (nI p) sp = (nI (x1 * (pr (fun x => fall (c x) (dem W p r x)) * asc f (dem W p r 6))), sp') ∧ ((∀ x, x < 6 → dem W p r x ≤ c x) → ∀ x, x < 6 → sp' x = nI (c x - dem W p r x)) := by
  intro r
  induction r with
  | zero =>
    intro p d f x1 c sp hp hd hc hsp
    obtain ⟨d', rfl⟩ : ∃ d', d = d' + 1 := ⟨d - 1, by omega⟩
    have cc : lp ≤ nI p := by rw [hlp, show np = p by omega]; exact Int32.le_refl _
    rw [F_X1_countWays_l6, if_pos cc, F_X1_countWays_k6]
    refine ⟨sp, ?_, fun _ x hx => hsp x hx⟩
    have : pr (fun x => fall (c x) (dem W p 0 x)) * asc f (dem W p 0 6) = 1 := by simp [pr, dem, fall, asc]
    rw [this, Nat.mul_one]
  | succ r ih =>
    intro p d f x1 c sp hp hd hc hsp
    obtain ⟨d', rfl⟩ : ∃ d', d = d' + 1 := ⟨d - 1, by omega⟩
    have cc : ¬ lp ≤ nI p := fun z => by rw [hlp] at z; have := (nI_leI (by omega) (by omega)).mp z; omega
    have ep : (nI p).toNatClampNeg = p := nI_clamp (by omega)
    have hw := hW p (by omega)
    rw [F_X1_countWays_l6, if_neg cc, ep, hwa p (by omega), nI_1 p]
    by_cases c6 : W p = 6
    · have e6 : nI (W p) = 6 := by rw [c6]; rfl
      rw [if_pos e6, nI_1 f, pk_mul]
      obtain ⟨sp', g1, g2⟩ := ih (p + 1) d' (f + 1) (x1 * (f + 1)) c sp (by omega) (by omega) hc hsp
      have ed : ∀ x, x < 6 → dem W p (r + 1) x = dem W (p + 1) r x := fun x hx => by rw [dem, c6, if_neg (by omega), Nat.zero_add]
      have e66 : dem W p (r + 1) 6 = dem W (p + 1) r 6 + 1 := by rw [dem, c6, if_pos rfl, Nat.add_comm]
      have epr : pr (fun x => fall (c x) (dem W p (r + 1) x)) = pr (fun x => fall (c x) (dem W (p + 1) r x)) := pr_congr (fun x hx => by rw [ed x hx])
      refine ⟨sp', ?_, fun h x hx => ?_⟩
      · rw [g1, epr, e66, asc]
        congr 2
        ac_rfl
      · rw [ed x hx]
        exact g2 (fun y hy => by rw [← ed y hy]; exact h y hy) x hx
    · have w6 : W p < 6 := by omega
      have n6 : ¬ nI (W p) = 6 := fun z => c6 (nI_inj (b := 6) (by omega) (by omega) z)
      have ew : (nI (W p)).toNatClampNeg = W p := nI_clamp (by omega)
      have ed : ∀ x, dem W p (r + 1) x = (if W p = x then 1 else 0) + dem W (p + 1) r x := fun x => rfl
      rw [if_neg n6, ew, hsp _ w6]
      have g1 := zl_ge (x := nI (c (W p))) (k := 1) (z := 1) (by decide)
      rw [nI_toInt (by have := hc _ w6; omega)] at g1
      have e6 : dem W p (r + 1) 6 = dem W (p + 1) r 6 := by rw [ed, if_neg (by omega), Nat.zero_add]
      by_cases c1 : (1 : Int32) ≤ nI (c (W p))
      · have h1 := g1.mp c1
        rw [if_pos c1, pk_mul, show nI (c (W p)) - 1 = nI (c (W p) - 1) from pk_sub (b := 1) (by omega)]
        obtain ⟨sp', k1, k2⟩ := ih (p + 1) d' f (x1 * c (W p)) (dec1 c (W p)) (upd sp (W p) (nI (c (W p) - 1))) (by omega) (by omega) (fun x hx => by
            by_cases q : x = W p
            · rw [dec1, q, at1_s]; have := hc _ w6; omega
            · rw [dec1, at1_n q]; exact hc x hx) (fun x hx => by
            by_cases q : x = W p
            · rw [dec1, q, at1_s, pk_us]
            · rw [dec1, at1_n q, pk_un q]; exact hsp x hx)
        refine ⟨sp', ?_, fun h x hx => ?_⟩
        · rw [k1, pr_spec rfl w6, e6]
          congr 2
          ac_rfl
        · have := k2 (fun y hy => by
            have hy' := h y hy
            rw [ed] at hy'
            by_cases q : y = W p
            · rw [dec1, q, at1_s]; rw [q, if_pos rfl] at hy'; omega
            · rw [dec1, at1_n q]; rw [if_neg (fun z => q z.symm)] at hy'; omega) x hx
          rw [this, ed]
          congr 1
          by_cases q : x = W p
          · rw [dec1, q, at1_s, if_pos rfl]; omega
          · rw [dec1, at1_n q, if_neg (fun z => q z.symm)]; omega
      · have h0 : c (W p) = 0 := by have := mt g1.mpr c1; omega
        rw [if_neg c1]
        refine ⟨sp, ?_, fun h x hx => ?_⟩
        · rw [pr_spec rfl w6, h0, Nat.zero_mul, Nat.zero_mul, Nat.mul_zero]; rfl
        · exfalso
          have := h (W p) w6
          rw [ed, if_pos rfl, h0] at this
          omega
set_option maxRecDepth 20000 in
theorem and_e : ∀ s, s < 512 → ∀ k, k < 9 → (nI s &&& ((1 : Int32) <<< (nI k &&& 31)) = 0 ↔ s / 2 ^ k % 2 = 0) := by decide +kernel
/-- what fits as the class sees it -/
def okC (S q : Nat → Nat) (s w k : Nat) : Prop := s / 2 ^ k % 2 = 0 ∧ (S k = w ∨ (w = 6 ∧ 0 < q (S k)))
theorem lf_l (hlp : lp = nI np) (hnp : np ≤ 9) (hcs : ∀ k, k < np → cs k = nI (S k)) (hS : ∀ k, k < np → S k < 6) {s w k : Nat} {q : Nat → Nat} {sp : Nat → Int32} (hs : s < 512) (hw : w ≤ 6) (hq9 : ∀ x, x < 6 → q x ≤ 9) (hsp : ∀ x, x < 6 → sp x = nI (q x)) (hk : k < np) (hok : okC S q s w k) (hmin : ∀ i, i < k → ¬ okC S q s w i) (K : Int32 → Int32 × (Nat → Int32)) : ∀ (r j d : Nat), j + r = k → r < d →
    F_X1_leastFor_l2 lp cs sp (nI w) (nI s) K d (nI j) = (nI k, if w = 6 then upd sp (S k) (nI (q (S k) - 1)) else sp) := by
  intro r
  induction r with
  | zero =>
    intro j d hj hd
    obtain ⟨d', rfl⟩ : ∃ d', d = d' + 1 := ⟨d - 1, by omega⟩
    have ej : j = k := by omega
    subst ej
    have cc : ¬ lp ≤ nI j := fun z => by rw [hlp] at z; have := (nI_leI (by omega) (by omega)).mp z; omega
    have e1 : (nI j).toNatClampNeg = j := nI_clamp (by omega)
    have hSj := hS j hk
    have e2 : (nI (S j)).toNatClampNeg = S j := nI_clamp (by omega)
    rw [F_X1_leastFor_l2, if_neg cc, if_pos ((and_e s hs j (by omega)).mpr hok.1), e1, hcs j hk]
    by_cases c : w = S j
    · have : nI w = nI (S j) := by rw [c]
      rw [if_pos this, if_neg (by omega)]
    · have n1 : ¬ nI w = nI (S j) := fun z => c (nI_inj (by omega) (by omega) z)
      rcases hok.2 with h | ⟨h6, h0⟩
      · exact absurd h.symm c
      · have e6 : nI w = 6 := by rw [h6]; rfl
        have n2 : ¬ nI (q (S j)) ≤ 0 := nI_nle h0 (by have := hq9 _ hSj; omega)
        rw [if_neg n1, if_pos e6, e2, hsp _ hSj, if_neg n2, if_pos h6, show nI (q (S j)) - 1 = nI (q (S j) - 1) from pk_sub (b := 1) h0]
  | succ r ih =>
    intro j d hj hd
    obtain ⟨d', rfl⟩ : ∃ d', d = d' + 1 := ⟨d - 1, by omega⟩
    have cc : ¬ lp ≤ nI j := fun z => by rw [hlp] at z; have := (nI_leI (by omega) (by omega)).mp z; omega
    have e1 : (nI j).toNatClampNeg = j := nI_clamp (by omega)
    have hSj := hS j (by omega)
    have e2 : (nI (S j)).toNatClampNeg = S j := nI_clamp (by omega)
    have hno := hmin j (by omega)
    have go := ih (j + 1) d' (by omega) (by omega)
    rw [F_X1_leastFor_l2, if_neg cc, nI_1]
    by_cases b : s / 2 ^ j % 2 = 0
    · rw [if_pos ((and_e s hs j (by omega)).mpr b), e1, hcs j (by omega)]
      have n1 : ¬ nI w = nI (S j) := fun z => hno ⟨b, Or.inl (nI_inj (by omega) (by omega) z).symm⟩
      rw [if_neg n1]
      by_cases c6 : w = 6
      · have e6 : nI w = 6 := by rw [c6]; rfl
        have h0 : q (S j) = 0 := by
          rcases Nat.eq_zero_or_pos (q (S j)) with z | z
          · exact z
          · exact absurd ⟨b, Or.inr ⟨c6, z⟩⟩ hno
        have n2 : nI (q (S j)) ≤ 0 := by rw [h0]; exact Int32.le_refl _
        rw [if_pos e6, e2, hsp _ hSj, if_pos n2]; exact go
      · have n6 : ¬ nI w = 6 := fun z => c6 (nI_inj (b := 6) (by omega) (by omega) z)
        rw [if_neg n6]; exact go
    · rw [if_neg (mt (and_e s hs j (by omega)).mp b)]; exact go
theorem gFirst_least {P : Nat → Prop} [DecidablePred P] {k : Nat} (hk : P k) : ∀ (n j : Nat) (x : Int32), (∀ i, j ≤ i → i < k → ¬ P i) → j ≤ k → k < j + n → gFirst P n j x = nI k := by
  intro n
  induction n with
  | zero => intro j x _ _ h; omega
  | succ n ih =>
    intro j x hno hj hn
    rw [gFirst]
    by_cases c : j = k
    · subst c; rw [if_pos hk]
    · rw [if_neg (hno j (Nat.le_refl j) (by omega))]
      exact ih (j + 1) x (fun i h1 h2 => hno i (by omega) h2) (by omega) (by omega)
theorem l27_l (htf : tf = nI f0) (hnp : np ≤ 9) (hfn : f0 + np ≤ 240) {s j : Nat} (hs : s < 2 ^ np) (hj : j < np) [DecidablePred (fiOK sl dr ko bo yo sh wo f0 s j)] (K : Int32 → Int32 → Int32) : ∀ (b d : Nat) (x4 : Int32), b ≤ np → b < d → ∃ y, F_X6_firstIn_l27 sl dr ko bo yo wo sh tf (nI s) (nI j) K d x4 (nI b - 1) = K (gFirst (fiOK sl dr ko bo yo sh wo f0 s j) b 0 x4) y := by
  have h512 := (pow_le np (by omega)).2
  intro b
  induction b with
  | zero =>
    intro d x4 hb hd
    obtain ⟨d', rfl⟩ : ∃ d', d = d' + 1 := ⟨d - 1, by omega⟩
    have c : nI 0 - 1 < 0 := by decide
    rw [F_X6_firstIn_l27, if_pos c]
    exact ⟨_, rfl⟩
  | succ b ih =>
    intro d x4 hb hd
    obtain ⟨d', rfl⟩ : ∃ d', d = d' + 1 := ⟨d - 1, by omega⟩
    have e : nI (b + 1) - 1 = nI b := nI_pred b
    have e2 : nI b + (-1 : Int32) = nI b - 1 := by rw [Int32.sub_eq_add_neg]
    have c : ¬ nI b < 0 := nI_pos (by omega)
    rw [F_X6_firstIn_l27, e, if_neg c, e2, gFirst_snoc, Nat.zero_add]
    by_cases c1 : F_X6_isIn (nI s) (nI b) = 0
    · have hin := (isIn_e s (by omega) b (by omega)).mp c1
      have hl := bit_lt np (by omega) s hs b (by omega) hin
      rw [if_pos c1]
      by_cases c2 : F_X6_mayLie sl dr ko bo yo (nI b) (nI j) (sh (tf + nI j).toNatClampNeg) = 0
      · rw [if_pos c2, if_neg (fi_b (wo := wo) (s := s) htf rfl (by omega) rfl c2)]; exact ih _ _ (by omega) (by omega)
      · rw [if_neg c2]
        by_cases c3 : wo (nI s ||| ((1 : Int32) <<< (nI b &&& 31))).toNatClampNeg ≤ 0
        · rw [if_pos c3, if_neg (fi_c (sl := sl) (dr := dr) (ko := ko) (bo := bo) (yo := yo) (sh := sh) (f0 := f0) (j := j) rfl (by omega) rfl (by omega) hin (by omega) c3)]; exact ih _ _ (by omega) (by omega)
        · rw [if_neg c3, if_pos (fi_d htf rfl (by omega) rfl (by omega) rfl (by omega) hin (by omega) c2 c3)]; exact ih _ _ (by omega) (by omega)
    · rw [if_neg c1, if_neg (fi_a (sl := sl) (dr := dr) (ko := ko) (bo := bo) (yo := yo) (sh := sh) (wo := wo) (f0 := f0) (j := j) rfl (by omega) rfl (by omega) c1)]; exact ih _ _ (by omega) (by omega)
theorem wsum_ge {g : Nat → Nat} : ∀ {n k : Nat}, k < n → g k ≤ wsum g n := by
  intro n
  induction n with
  | zero => intro k h; omega
  | succ n ih =>
    intro k h
    rw [wsum]
    rcases (by omega : k < n ∨ k = n) with q | q
    · have := ih q; omega
    · rw [q]; omega
theorem cnt_pos {s n k : Nat} (hk : k < n) (hb : s / 2 ^ k % 2 = 0) : 1 ≤ cnt S s n (S k) := by
  have := wsum_ge (g := fun i => if s / 2 ^ i % 2 = 0 ∧ S i = S k then 1 else 0) hk
  rw [if_pos ⟨hb, rfl⟩] at this
  exact this
theorem least_of {P : Nat → Prop} {n : Nat} (h : ∃ k, k < n ∧ P k) : ∃ k, k < n ∧ P k ∧ ∀ i, i < k → ¬ P i := by
  obtain ⟨k0, h1, h2⟩ := h
  obtain ⟨k, h3, h4⟩ := pk_least (fun k => k < n ∧ P k) ⟨k0, h1, h2⟩
  exact ⟨k, h3.1, h3.2, fun i hi hp => h4 i hi ⟨by omega, hp⟩⟩
/-- the class's choice is the reference's -/
theorem ok_iff (hnp : np ≤ 9) (hS : ∀ k, k < np → S k < 6) (hW : ∀ p, p < np → W p ≤ 6) (hm : ∀ k p, k < np → p < np → (¬ F_X6_mayLie sl dr ko bo yo (nI k) (nI p) (sh (f0 + p)) = 0 ↔ W p = 6 ∨ S k = W p))
    {s p r k : Nat} (hs : s < 2 ^ np) (hsp : popc s = p) (hr : p + (r + 1) = np) (hpos : 0 < EE W (cnt S s np) p (r + 1)) (hwo : ∀ t, t < 2 ^ np → (0 < wo t ↔ 0 < EE W (cnt S t np) (popc t) (np - popc t))) (hk : k < np) :
    okC S (fun x => cnt S s np x - dem W p (r + 1) x) s (W p) k ↔ fiOK sl dr ko bo yo sh wo f0 s p k := by
  have h512 := (pow_le np (by omega)).2
  have hp := EE_pos.mp hpos
  have hSk := hS k hk
  have ed : ∀ x, dem W p (r + 1) x = (if W p = x then 1 else 0) + dem W (p + 1) r x := fun x => rfl
  unfold okC fiOK
  rw [hm k p hk (by omega)]
  constructor
  · rintro ⟨h1, h2⟩
    refine ⟨h1, ?_, ?_⟩
    · rcases h2 with h | h
      · exact Or.inr h
      · exact Or.inl h.1
    · have hlt := bit_lt np (by omega) s hs k hk h1
      have hpc := popc_or s (by omega) k (by omega) h1
      rw [hwo _ hlt, EE_pos, hpc, hsp, show np - (p + 1) = r by omega]
      intro x hx
      rw [cnt_dec (by omega) hk hnp h1]
      have hx' := hp x hx
      rw [ed] at hx'
      rcases h2 with h | ⟨h6, h0⟩
      · by_cases q : x = S k
        · rw [dec1, q, at1_s]
          rw [q, if_pos h.symm] at hx'; omega
        · rw [dec1, at1_n q]; omega
      · by_cases q : x = S k
        · rw [dec1, q, at1_s]
          have h0' : 0 < cnt S s np (S k) - dem W p (r + 1) (S k) := h0
          rw [ed, if_neg (by omega)] at h0'
          omega
        · rw [dec1, at1_n q]; omega
  · rintro ⟨h1, h2, h3⟩
    refine ⟨h1, ?_⟩
    by_cases c : S k = W p
    · exact Or.inl c
    · have h6 : W p = 6 := by rcases h2 with h | h; exact h; exact absurd h c
      refine Or.inr ⟨h6, ?_⟩
      have hlt := bit_lt np (by omega) s hs k hk h1
      have hpc := popc_or s (by omega) k (by omega) h1
      rw [hwo _ hlt, EE_pos, hpc, hsp, show np - (p + 1) = r by omega] at h3
      have := h3 (S k) hSk
      rw [cnt_dec (by omega) hk hnp h1, dec1, at1_s] at this
      have hc := cnt_pos (S := S) hk h1
      show 0 < cnt S s np (S k) - dem W p (r + 1) (S k)
      rw [ed, if_neg (by omega)]
      omega
end Q14
