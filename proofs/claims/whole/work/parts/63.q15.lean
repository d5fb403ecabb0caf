section Q15
variable {lp pn sl dr tf pl : Int32} {cs wa ko bo yo sh wo : Nat → Int32} {S W : Nat → Nat} {np f0 p0 : Nat}
/-- one place: what both take -/
theorem place_l (hlp : lp = nI np) (hnp : np ≤ 9) (htf : tf = nI f0) (hfn : f0 + np ≤ 240) (hcs : ∀ k, k < np → cs k = nI (S k)) (hwa : ∀ p, p < np → wa p = nI (W p)) (hS : ∀ k, k < np → S k < 6) (hW : ∀ p, p < np → W p ≤ 6) (hm : ∀ k p, k < np → p < np → (¬ F_X6_mayLie sl dr ko bo yo (nI k) (nI p) (sh (f0 + p)) = 0 ↔ W p = 6 ∨ S k = W p))
    (hwo : ∀ t, t < 2 ^ np → (0 < wo t ↔ 0 < EE W (cnt S t np) (popc t) (np - popc t))) (hex : ∀ s, s < 2 ^ np → popc s < np → 0 < wo s → ∃ k, k < np ∧ fiOK sl dr ko bo yo sh wo f0 s (popc s) k)
    {s p r : Nat} {sp : Nat → Int32} (hs : s < 2 ^ np) (hp : popc s = p) (hr : p + (r + 1) = np) (hpos : 0 < EE W (cnt S s np) p (r + 1)) (hsp : ∀ x, x < 6 → sp x = nI (cnt S s np x - dem W p (r + 1) x)) :
    ∃ (k : Nat) (sp' : Nat → Int32), k < np ∧ s / 2 ^ k % 2 = 0 ∧ F_X1_leastFor lp cs sp (wa p) (nI s) = (nI k, sp') ∧ (∀ (K : Int32 → Int32 → Int32) (d : Nat) (x4 : Int32), np < d → ∃ y, F_X6_firstIn_l27 sl dr ko bo yo wo sh tf (nI s) (nI p) K d x4 (nI np - 1) = K (nI k) y) ∧
      s + 2 ^ k < 2 ^ np ∧ popc (s + 2 ^ k) = p + 1 ∧ 0 < EE W (cnt S (s + 2 ^ k) np) (p + 1) r ∧ ∀ x, x < 6 → sp' x = nI (cnt S (s + 2 ^ k) np x - dem W (p + 1) r x) := by
  have h512 := (pow_le np (by omega)).2
  have hiff := fun k hk => ok_iff (sl := sl) (dr := dr) (ko := ko) (bo := bo) (yo := yo) (sh := sh) (wo := wo) (f0 := f0) (k := k) hnp hS hW hm hs hp hr hpos hwo hk
  have hws : 0 < wo s := (hwo s hs).mpr (by rw [hp, show np - p = r + 1 by omega]; exact hpos)
  obtain ⟨k0, hk0, hf0⟩ := hex s hs (by omega) hws
  rw [hp] at hf0
  obtain ⟨k, hk, hfk, hmin⟩ := least_of ⟨k0, hk0, hf0⟩
  have hokC := (hiff k hk).mpr hfk
  have hminC : ∀ i, i < k → ¬ okC S (fun x => cnt S s np x - dem W p (r + 1) x) s (W p) i := fun i hi z => hmin i hi ((hiff i (by omega)).mp z)
  have hb := hfk.1
  have hlt := bit_lt np (by omega) s hs k hk hb
  have hpc := popc_or s (by omega) k (by omega) hb
  have hsum := cnt_sum (S := S) hnp hs hS
  have hc9 : ∀ x, x < 6 → cnt S s np x ≤ 9 := fun x hx => by
    unfold su at hsum
    rcases (by omega : x = 0 ∨ x = 1 ∨ x = 2 ∨ x = 3 ∨ x = 4 ∨ x = 5) with rfl | rfl | rfl | rfl | rfl | rfl <;> omega
  have hw := hW p (by omega)
  have hSk := hS k hk
  have ed : ∀ x, dem W p (r + 1) x = (if W p = x then 1 else 0) + dem W (p + 1) r x := fun x => rfl
  have lf := lf_l (lp := lp) (cs := cs) (S := S) (np := np) (s := s) (w := W p) (k := k) (q := fun x => cnt S s np x - dem W p (r + 1) x) (sp := sp) hlp hnp hcs hS (by omega) hw (fun x hx => by have := hc9 x hx; show cnt S s np x - dem W p (r + 1) x ≤ 9; omega) hsp hk hokC hminC (F_X1_leastFor_k2 sp) k 0 10 (by omega) (by omega)
  refine ⟨k, _, hk, hb, by rw [hwa p (by omega), F_X1_leastFor]; exact lf, fun K d x4 hd => ?_, hlt, by rw [hpc, hp], ?_, fun x hx => ?_⟩
  · haveI : DecidablePred (fiOK sl dr ko bo yo sh wo f0 s p) := fun _ => Classical.propDecidable _
    obtain ⟨y, hy⟩ := l27_l (sl := sl) (dr := dr) (ko := ko) (bo := bo) (yo := yo) (sh := sh) (wo := wo) htf hnp hfn hs (show p < np by omega) K np d x4 (Nat.le_refl _) hd
    refine ⟨y, ?_⟩
    rw [hy, gFirst_least hfk np 0 x4 (fun i _ hi => hmin i hi) (Nat.zero_le _) (by omega)]
  · have := (hwo _ hlt).mp hfk.2.2
    rw [hpc, hp, show np - (p + 1) = r by omega] at this
    exact this
  · rw [cnt_dec (by omega) hk hnp hb]
    have hpx := EE_pos.mp hpos
    by_cases c6 : W p = 6
    · rw [if_pos c6]
      by_cases q : x = S k
      · rw [q, pk_us, dec1, at1_s, ed, if_neg (by omega), Nat.zero_add]
        congr 1
        omega
      · rw [pk_un q, dec1, at1_n q, hsp x hx, ed, if_neg (by omega), Nat.zero_add]
    · rw [if_neg c6, hsp x hx, ed]
      have hSw : S k = W p := by rcases hokC.2 with h | h; exact h; exact absurd h.1 c6
      congr 1
      by_cases q : x = S k
      · rw [q, dec1, at1_s, if_pos hSw.symm]; omega
      · rw [dec1, at1_n q, if_neg (fun z => q (by rw [hSw]; exact z.symm)), Nat.zero_add]
theorem greedy_l (hlp : lp = nI np) (hpn : pn = nI np) (hnp : np ≤ 9) (htf : tf = nI f0) (hfn : f0 + np ≤ 240) (hcs : ∀ k, k < np → cs k = nI (S k)) (hwa : ∀ p, p < np → wa p = nI (W p)) (hS : ∀ k, k < np → S k < 6) (hW : ∀ p, p < np → W p ≤ 6) (hm : ∀ k p, k < np → p < np → (¬ F_X6_mayLie sl dr ko bo yo (nI k) (nI p) (sh (f0 + p)) = 0 ↔ W p = 6 ∨ S k = W p))
    (hwo : ∀ t, t < 2 ^ np → (0 < wo t ↔ 0 < EE W (cnt S t np) (popc t) (np - popc t))) (hex : ∀ s, s < 2 ^ np → popc s < np → 0 < wo s → ∃ k, k < np ∧ fiOK sl dr ko bo yo sh wo f0 s (popc s) k) (hpl : pl = nI p0) (hp0 : p0 < 1000) :
    ∀ (r p s d d' : Nat) (x4 : Int32) (sp : Nat → Int32), p + r = np → p ≤ p0 → r < d → r < d' → s < 2 ^ np → popc s = p → 0 < EE W (cnt S s np) p r → (∀ x, x < 6 → sp x = nI (cnt S s np x - dem W p r x)) →
      (p0 < np → (F_X1_firstAt_l14 lp cs wa pl F_X1_firstAt_k14 d (nI s) (nI p) sp).1 = F_X6_firstIn_l9 pn sl dr ko bo yo wo sh tf pl F_X6_firstIn_k9 d' (nI s) x4 (nI p)) ∧
      (np ≤ p0 → (F_X1_firstAt_l14 lp cs wa pl F_X1_firstAt_k14 d (nI s) (nI p) sp).1 = -9) := by
  have h512 := (pow_le np (by omega)).2
  intro r
  induction r with
  | zero =>
    intro p s d d' x4 sp hp hpp hd hd' hs hpc hpos hsp
    obtain ⟨d1, rfl⟩ : ∃ d1, d = d1 + 1 := ⟨d - 1, by omega⟩
    refine ⟨fun h => by omega, fun _ => ?_⟩
    have cc : lp ≤ nI p := by rw [hlp, show np = p by omega]; exact Int32.le_refl _
    rw [F_X1_firstAt_l14, if_pos cc]; rfl
  | succ r ih =>
    intro p s d d' x4 sp hp hpp hd hd' hs hpc hpos hsp
    obtain ⟨d1, rfl⟩ : ∃ d1, d = d1 + 1 := ⟨d - 1, by omega⟩
    obtain ⟨d2, rfl⟩ : ∃ d2, d' = d2 + 1 := ⟨d' - 1, by omega⟩
    obtain ⟨k, sp', hk, hb, hlf, hl27, hlt, hpc', hpos', hsp'⟩ := place_l (sl := sl) (dr := dr) (ko := ko) (bo := bo) (yo := yo) (wo := wo) (tf := tf) (f0 := f0) hlp hnp htf hfn hcs hwa hS hW hm hwo hex hs hpc hp hpos hsp
    have cc : ¬ lp ≤ nI p := fun z => by rw [hlp] at z; have := (nI_leI (by omega) (by omega)).mp z; omega
    have ep : (nI p).toNatClampNeg = p := nI_clamp (by omega)
    have np9 : ¬ nI k = (-9 : Int32) := fun z => by have := nI_pos (n := k) (by omega); rw [z] at this; exact this (by decide)
    have cl : ¬ pl < nI p := fun z => by rw [hpl] at z; have := (nI_ltI (by omega) (by omega)).mp z; omega
    rw [F_X1_firstAt_l14, if_neg cc, ep, hlf]
    dsimp only
    have hor := or_e s (by omega) k (by omega) hb
    by_cases c : p = p0
    · have e : nI p = pl := by rw [hpl, c]
      rw [if_pos e]
      refine ⟨fun h => ?_, fun h => by omega⟩
      rw [F_X6_firstIn_l9, if_neg cl, hpn]
      obtain ⟨y, hy⟩ := hl27 (F_X6_firstIn_k27 (fun x3_9_r x4_9_r x5_9_r => F_X6_firstIn_l9 (nI np) sl dr ko bo yo wo sh tf pl F_X6_firstIn_k9 d2 x3_9_r x4_9_r x5_9_r) (nI s) (nI p)) 10 (-9) (by omega)
      rw [hy, F_X6_firstIn_k27]
      show nI k = F_X6_firstIn_l9 (nI np) sl dr ko bo yo wo sh tf pl F_X6_firstIn_k9 d2 (nI s ||| ((1 : Int32) <<< (nI k &&& 31))) (nI k) (nI p + 1)
      cases d2 with
      | zero => omega
      | succ d3 =>
        have cl2 : pl < nI p + 1 := by rw [nI_1, hpl]; exact nI_lt (by omega) (by omega)
        rw [F_X6_firstIn_l9, if_pos cl2]; rfl
    · have n1 : ¬ nI p = pl := fun z => c (nI_inj (by omega) (by omega) (z.trans hpl))
      rw [if_neg n1, if_neg np9, hor, nI_1]
      obtain ⟨i1, i2⟩ := ih (p + 1) (s + 2 ^ k) d1 d2 (nI k) sp' (by omega) (by omega) (by omega) (by omega) hlt hpc' hpos' hsp'
      refine ⟨fun h => ?_, i2⟩
      rw [i1 h, F_X6_firstIn_l9, if_neg cl, hpn]
      obtain ⟨y, hy⟩ := hl27 (F_X6_firstIn_k27 (fun x3_9_r x4_9_r x5_9_r => F_X6_firstIn_l9 (nI np) sl dr ko bo yo wo sh tf pl F_X6_firstIn_k9 d2 x3_9_r x4_9_r x5_9_r) (nI s) (nI p)) 10 (-9) (by omega)
      rw [hy, F_X6_firstIn_k27, hor, nI_1]
end Q15
