section Q13
def fall : Nat → Nat → Nat
  | _, 0 => 1
  | c, d + 1 => c * fall (c - 1) d
def asc : Nat → Nat → Nat
  | _, 0 => 1
  | f, n + 1 => (f + 1) * asc (f + 1) n
theorem asc_fac : ∀ n f : Nat, fac f * asc f n = fac (f + n) := by
  intro n
  induction n with
  | zero => intro f; rw [asc, Nat.mul_one]; rfl
  | succ n ih =>
    intro f
    have := ih (f + 1)
    rw [fac, show f + 1 + n = f + (n + 1) by omega] at this
    rw [asc, ← this, Nat.mul_comm (f + 1) (fac f), Nat.mul_assoc, Nat.mul_left_comm, Nat.mul_comm (f + 1)]
theorem asc_0 (n : Nat) : asc 0 n = fac n := by
  have := asc_fac n 0
  rw [show fac 0 = 1 from rfl, Nat.one_mul, Nat.zero_add] at this
  exact this
theorem fall_id : ∀ d c : Nat, c * fall (c - 1) d + d * fall c d = c * fall c d := by
  intro d
  induction d with
  | zero => intro c; rw [fall, fall, Nat.zero_mul, Nat.add_zero]
  | succ d ih =>
    intro c
    rcases Nat.eq_zero_or_pos c with q | q
    · subst q; rw [fall]; simp
    · have h := ih (c - 1)
      rw [fall, fall]
      have e : c * (c * fall (c - 1) d) = c * ((c - 1) * fall (c - 1) d) + c * fall (c - 1) d := by
        rw [← Nat.mul_add]
        congr 1
        have : c = (c - 1) + 1 := by omega
        calc c * fall (c - 1) d = ((c - 1) + 1) * fall (c - 1) d := by rw [← this]
          _ = (c - 1) * fall (c - 1) d + fall (c - 1) d := by rw [Nat.add_mul, Nat.one_mul]
      rw [e, ← h, Nat.mul_add, Nat.add_mul, Nat.one_mul]
      have e2 : d * (c * fall (c - 1) d) = c * (d * fall (c - 1) d) := by rw [Nat.mul_left_comm]
      rw [e2, Nat.add_assoc]
theorem fall_pos : ∀ d c : Nat, 0 < fall c d ↔ d ≤ c := by
  intro d
  induction d with
  | zero => intro c; exact ⟨fun _ => Nat.zero_le _, fun _ => Nat.one_pos⟩
  | succ d ih =>
    intro c
    rw [fall, Nat.pos_iff_ne_zero, Nat.mul_ne_zero_iff, ← Nat.pos_iff_ne_zero, ← Nat.pos_iff_ne_zero, ih]
    omega
theorem fac_pos : ∀ n : Nat, 0 < fac n := by
  intro n
  induction n with
  | zero => exact Nat.one_pos
  | succ n ih => rw [fac]; exact Nat.mul_pos (by omega) ih
def pr (g : Nat → Nat) : Nat := g 0 * (g 1 * (g 2 * (g 3 * (g 4 * g 5))))
def su (g : Nat → Nat) : Nat := g 0 + (g 1 + (g 2 + (g 3 + (g 4 + g 5))))
theorem su_congr {g h : Nat → Nat} (e : ∀ x, x < 6 → g x = h x) : su g = su h := by
  unfold su; rw [e 0 (by omega), e 1 (by omega), e 2 (by omega), e 3 (by omega), e 4 (by omega), e 5 (by omega)]
theorem pr_congr {g h : Nat → Nat} (e : ∀ x, x < 6 → g x = h x) : pr g = pr h := by
  unfold pr; rw [e 0 (by omega), e 1 (by omega), e 2 (by omega), e 3 (by omega), e 4 (by omega), e 5 (by omega)]
theorem pr_pos {g : Nat → Nat} : 0 < pr g ↔ ∀ x, x < 6 → 0 < g x := by
  unfold pr
  constructor
  · intro h x hx
    have h0 := Nat.pos_of_mul_pos_right h
    have t0 := Nat.pos_of_mul_pos_left h
    have h1 := Nat.pos_of_mul_pos_right t0
    have t1 := Nat.pos_of_mul_pos_left t0
    have h2 := Nat.pos_of_mul_pos_right t1
    have t2 := Nat.pos_of_mul_pos_left t1
    have h3 := Nat.pos_of_mul_pos_right t2
    have t3 := Nat.pos_of_mul_pos_left t2
    have h4 := Nat.pos_of_mul_pos_right t3
    have h5 := Nat.pos_of_mul_pos_left t3
    rcases (by omega : x = 0 ∨ x = 1 ∨ x = 2 ∨ x = 3 ∨ x = 4 ∨ x = 5) with rfl | rfl | rfl | rfl | rfl | rfl <;> assumption
  · intro h
    exact Nat.mul_pos (h 0 (by omega)) (Nat.mul_pos (h 1 (by omega)) (Nat.mul_pos (h 2 (by omega)) (Nat.mul_pos (h 3 (by omega)) (Nat.mul_pos (h 4 (by omega)) (h 5 (by omega))))))
/-- g with its value at x changed -/
def at1 (g : Nat → Nat) (x v : Nat) : Nat → Nat := fun y => if y = x then v else g y
theorem at1_s {g : Nat → Nat} {x v : Nat} : at1 g x v x = v := if_pos rfl
theorem at1_n {g : Nat → Nat} {x v y : Nat} (h : y ≠ x) : at1 g x v y = g y := if_neg h
theorem pr_at {g : Nat → Nat} {x v : Nat} (hx : x < 6) : ∃ q, pr (at1 g x v) = v * q ∧ pr g = g x * q := by
  rcases (by omega : x = 0 ∨ x = 1 ∨ x = 2 ∨ x = 3 ∨ x = 4 ∨ x = 5) with rfl | rfl | rfl | rfl | rfl | rfl
  · exact ⟨g 1 * (g 2 * (g 3 * (g 4 * g 5))), rfl, rfl⟩
  · exact ⟨g 0 * (g 2 * (g 3 * (g 4 * g 5))), by show g 0 * (v * (g 2 * (g 3 * (g 4 * g 5)))) = _; ac_rfl, by unfold pr; ac_rfl⟩
  · exact ⟨g 0 * (g 1 * (g 3 * (g 4 * g 5))), by show g 0 * (g 1 * (v * (g 3 * (g 4 * g 5)))) = _; ac_rfl, by unfold pr; ac_rfl⟩
  · exact ⟨g 0 * (g 1 * (g 2 * (g 4 * g 5))), by show g 0 * (g 1 * (g 2 * (v * (g 4 * g 5)))) = _; ac_rfl, by unfold pr; ac_rfl⟩
  · exact ⟨g 0 * (g 1 * (g 2 * (g 3 * g 5))), by show g 0 * (g 1 * (g 2 * (g 3 * (v * g 5)))) = _; ac_rfl, by unfold pr; ac_rfl⟩
  · exact ⟨g 0 * (g 1 * (g 2 * (g 3 * g 4))), by show g 0 * (g 1 * (g 2 * (g 3 * (g 4 * v)))) = _; ac_rfl, by unfold pr; ac_rfl⟩
/-- places at .. at + r - 1 that want x -/
def dem (W : Nat → Nat) : Nat → Nat → Nat → Nat
  | _, 0, _ => 0
  | p, r + 1, x => (if W p = x then 1 else 0) + dem W (p + 1) r x
def EE (W c : Nat → Nat) (p r : Nat) : Nat := pr (fun x => fall (c x) (dem W p r x)) * fac (dem W p r 6)
def dec1 (c : Nat → Nat) (x : Nat) : Nat → Nat := at1 c x (c x - 1)
theorem dem_sum {W : Nat → Nat} : ∀ (r p : Nat), (∀ i, i < p + r → W i ≤ 6) → su (dem W p r) + dem W p r 6 = r := by
  intro r
  induction r with
  | zero => intro p _; rfl
  | succ r ih =>
    intro p h
    have hi := ih (p + 1) (fun i hi => h i (by omega))
    have hw := h p (by omega)
    unfold su at hi ⊢
    simp only [dem]
    rcases (by omega : W p = 0 ∨ W p = 1 ∨ W p = 2 ∨ W p = 3 ∨ W p = 4 ∨ W p = 5 ∨ W p = 6) with q | q | q | q | q | q | q <;> (rw [q]; simp; omega)
theorem EE_spec {W c : Nat → Nat} {p r w : Nat} (hw : W p = w) (h6 : w < 6) : EE W c p (r + 1) = c w * EE W (dec1 c w) (p + 1) r := by
  unfold EE
  have e6 : dem W p (r + 1) 6 = dem W (p + 1) r 6 := by
    rw [dem, hw, if_neg (by omega), Nat.zero_add]
  obtain ⟨q, q1, q2⟩ := pr_at (g := fun x => fall (c x) (dem W (p + 1) r x)) (x := w) (v := fall (c w) (dem W (p + 1) r w + 1)) h6
  obtain ⟨q', q3, q4⟩ := pr_at (g := fun x => fall (c x) (dem W (p + 1) r x)) (x := w) (v := fall (c w - 1) (dem W (p + 1) r w)) h6
  have e1 : pr (fun x => fall (c x) (dem W p (r + 1) x)) = pr (at1 (fun x => fall (c x) (dem W (p + 1) r x)) w (fall (c w) (dem W (p + 1) r w + 1))) := pr_congr (fun x _ => by
    by_cases hx : x = w
    · subst hx
      rw [at1_s, dem, hw, if_pos rfl, Nat.add_comm 1]
    · rw [at1_n hx, dem, hw, if_neg (fun z => hx z.symm), Nat.zero_add])
  have e2 : pr (fun x => fall (dec1 c w x) (dem W (p + 1) r x)) = pr (at1 (fun x => fall (c x) (dem W (p + 1) r x)) w (fall (c w - 1) (dem W (p + 1) r w))) := pr_congr (fun x _ => by
    by_cases hx : x = w
    · subst hx
      rw [at1_s, dec1, at1_s]
    · rw [at1_n hx, dec1, at1_n hx])
  rw [e1, e2, e6, fall]
  -- the same remaining product
  have e3 : pr (at1 (fun x => fall (c x) (dem W (p + 1) r x)) w (c w * fall (c w - 1) (dem W (p + 1) r w))) = c w * pr (at1 (fun x => fall (c x) (dem W (p + 1) r x)) w (fall (c w - 1) (dem W (p + 1) r w))) := by
    rcases (by omega : w = 0 ∨ w = 1 ∨ w = 2 ∨ w = 3 ∨ w = 4 ∨ w = 5) with rfl | rfl | rfl | rfl | rfl | rfl <;> (simp only [pr, at1]; simp; ac_rfl)
  rw [e3, Nat.mul_assoc]
theorem EE_any {W c : Nat → Nat} {p r : Nat} (hw : W p = 6) (hW : ∀ i, i < p + (r + 1) → W i ≤ 6) (hc : su c = r + 1) : EE W c p (r + 1) = su (fun x => c x * EE W (dec1 c x) (p + 1) r) := by
  unfold EE
  have ed : ∀ x, x < 6 → dem W p (r + 1) x = dem W (p + 1) r x := fun x hx => by rw [dem, hw, if_neg (by omega), Nat.zero_add]
  have e6 : dem W p (r + 1) 6 = dem W (p + 1) r 6 + 1 := by rw [dem, hw, if_pos rfl, Nat.add_comm]
  rw [pr_congr (fun x hx => by rw [ed x hx]), e6, fac]
  have hs := dem_sum r (p + 1) (fun i hi => hW i (by omega))
  generalize hP : pr (fun x => fall (c x) (dem W (p + 1) r x)) = P
  have key : ∀ x, x < 6 → c x * pr (fun y => fall (dec1 c x y) (dem W (p + 1) r y)) + dem W (p + 1) r x * P = c x * P := by
    intro x hx
    obtain ⟨q, q1, q2⟩ := pr_at (g := fun y => fall (c y) (dem W (p + 1) r y)) (x := x) (v := fall (c x - 1) (dem W (p + 1) r x)) hx
    have e2 : pr (fun y => fall (dec1 c x y) (dem W (p + 1) r y)) = pr (at1 (fun y => fall (c y) (dem W (p + 1) r y)) x (fall (c x - 1) (dem W (p + 1) r x))) := pr_congr (fun y _ => by
      by_cases hy : y = x
      · subst hy
        rw [at1_s, dec1, at1_s]
      · rw [at1_n hy, dec1, at1_n hy])
    rw [e2, q1, ← hP, q2]
    have := fall_id (dem W (p + 1) r x) (c x)
    have h2 : (c x * fall (c x - 1) (dem W (p + 1) r x) + dem W (p + 1) r x * fall (c x) (dem W (p + 1) r x)) * q = c x * fall (c x) (dem W (p + 1) r x) * q := by rw [this]
    rw [Nat.add_mul] at h2
    rw [← Nat.mul_assoc, ← Nat.mul_assoc, ← Nat.mul_assoc]
    exact h2
  have k0 := key 0 (by omega)
  have k1 := key 1 (by omega)
  have k2 := key 2 (by omega)
  have k3 := key 3 (by omega)
  have k4 := key 4 (by omega)
  have k5 := key 5 (by omega)
  -- the sum of all
  have tot : su (fun x => c x * pr (fun y => fall (dec1 c x y) (dem W (p + 1) r y))) + su (dem W (p + 1) r) * P = su c * P := by
    unfold su
    simp only [Nat.add_mul]
    omega
  have e : su c = su (dem W (p + 1) r) + (dem W (p + 1) r 6 + 1) := by omega
  rw [e, Nat.add_mul, Nat.add_comm (su (dem W (p + 1) r) * P)] at tot
  have tot2 := Nat.add_right_cancel tot
  have e7 : su (fun x => c x * (pr (fun y => fall (dec1 c x y) (dem W (p + 1) r y)) * fac (dem W (p + 1) r 6))) = su (fun x => c x * pr (fun y => fall (dec1 c x y) (dem W (p + 1) r y))) * fac (dem W (p + 1) r 6) := by
    unfold su
    simp only [Nat.add_mul, Nat.mul_assoc]
  rw [e7, tot2]
  ac_rfl
theorem EE_pos {W c : Nat → Nat} {p r : Nat} : 0 < EE W c p r ↔ ∀ x, x < 6 → dem W p r x ≤ c x := by
  unfold EE
  constructor
  · intro h x hx
    exact (fall_pos _ _).mp (pr_pos.mp (Nat.pos_of_mul_pos_right h) x hx)
  · intro h
    exact Nat.mul_pos (pr_pos.mpr (fun x hx => (fall_pos _ _).mpr (h x hx))) (fac_pos _)
theorem EE_congr {W c c' : Nat → Nat} {p r : Nat} (h : ∀ x, x < 6 → c x = c' x) : EE W c p r = EE W c' p r := by
  unfold EE
  rw [pr_congr (fun x hx => by rw [h x hx])]
/-- how many pins of share x are left -/
def cnt (S : Nat → Nat) (s n x : Nat) : Nat := wsum (fun k => if s / 2 ^ k % 2 = 0 ∧ S k = x then 1 else 0) n
theorem regroup {S h : Nat → Nat} {s : Nat} : ∀ n, (∀ k, k < n → S k < 6) → wsum (fun k => if s / 2 ^ k % 2 = 0 then h (S k) else 0) n = su (fun x => cnt S s n x * h x) := by
  intro n
  induction n with
  | zero => intro _; unfold su cnt; simp [wsum]
  | succ n ih =>
    intro hS
    have hi := ih (fun k hk => hS k (by omega))
    have h6 := hS n (by omega)
    rw [wsum, hi]
    have e : ∀ x, cnt S s (n + 1) x = cnt S s n x + (if s / 2 ^ n % 2 = 0 ∧ S n = x then 1 else 0) := fun x => rfl
    unfold su
    simp only [e, Nat.add_mul]
    by_cases c : s / 2 ^ n % 2 = 0
    · rw [if_pos c]
      rcases (by omega : S n = 0 ∨ S n = 1 ∨ S n = 2 ∨ S n = 3 ∨ S n = 4 ∨ S n = 5) with q | q | q | q | q | q <;> (rw [q]; simp [c]; omega)
    · rw [if_neg c]; simp [c]
theorem regroup1 {S h : Nat → Nat} {s w : Nat} : ∀ n, wsum (fun k => if s / 2 ^ k % 2 = 0 ∧ S k = w then h (S k) else 0) n = cnt S s n w * h w := by
  intro n
  induction n with
  | zero => unfold cnt; simp [wsum]
  | succ n ih =>
    rw [wsum, ih, show cnt S s (n + 1) w = cnt S s n w + (if s / 2 ^ n % 2 = 0 ∧ S n = w then 1 else 0) from rfl, Nat.add_mul]
    by_cases c : s / 2 ^ n % 2 = 0 ∧ S n = w
    · rw [if_pos c, if_pos c, c.2, Nat.one_mul]
    · rw [if_neg c, if_neg c, Nat.zero_mul]
theorem wsum_rem {g g' : Nat → Nat} {k : Nat} (h0 : g' k = 0) (he : ∀ i, i ≠ k → g' i = g i) : ∀ n, wsum g' n + (if k < n then g k else 0) = wsum g n := by
  intro n
  induction n with
  | zero => rfl
  | succ n ih =>
    rw [wsum, wsum]
    rcases (by omega : k < n ∨ k = n ∨ n < k) with q | q | q
    · rw [if_pos q] at ih
      rw [if_pos (by omega), he n (by omega)]; omega
    · subst q
      rw [if_neg (by omega)] at ih
      rw [if_pos (by omega), h0]; omega
    · rw [if_neg (by omega)] at ih
      rw [if_neg (by omega), he n (by omega)]; omega
set_option maxRecDepth 20000 in
theorem bit_or0 : ∀ s, s < 512 → ∀ k, k < 9 → ∀ i, i < 9 → s / 2 ^ k % 2 = 0 → (((s + 2 ^ k) / 2 ^ i % 2 == 0) = ((s / 2 ^ i % 2 == 0) && !(i == k))) := by decide +kernel
theorem bit_or (s : Nat) (hs : s < 512) (k : Nat) (hk : k < 9) (hb : s / 2 ^ k % 2 = 0) (i : Nat) (hi : i < 9) : ((s + 2 ^ k) / 2 ^ i % 2 = 0 ↔ s / 2 ^ i % 2 = 0 ∧ i ≠ k) := by
  have h := bit_or0 s hs k hk i hi hb
  rw [Bool.eq_iff_iff] at h
  simpa using h
theorem cnt_dec {S : Nat → Nat} {s k n x : Nat} (hs : s < 512) (hk : k < n) (hn : n ≤ 9) (hb : s / 2 ^ k % 2 = 0) : cnt S (s + 2 ^ k) n x = dec1 (cnt S s n) (S k) x := by
  have e1 : cnt S (s + 2 ^ k) n x = wsum (fun i => if (s / 2 ^ i % 2 = 0 ∧ i ≠ k) ∧ S i = x then 1 else 0) n := wsum_congr n (fun i hi => by
    have := bit_or s hs k (by omega) hb i (by omega)
    by_cases c : (s + 2 ^ k) / 2 ^ i % 2 = 0 ∧ S i = x
    · rw [if_pos c, if_pos ⟨this.mp c.1, c.2⟩]
    · rw [if_neg c, if_neg (fun z => c ⟨this.mpr z.1, z.2⟩)])
  have e2 : wsum (fun i => if (s / 2 ^ i % 2 = 0 ∧ i ≠ k) ∧ S i = x then 1 else 0) n + (if s / 2 ^ k % 2 = 0 ∧ S k = x then 1 else 0) = cnt S s n x := by
    have h := wsum_rem (k := k) (g' := fun i => if (s / 2 ^ i % 2 = 0 ∧ i ≠ k) ∧ S i = x then 1 else 0) (g := fun i => if s / 2 ^ i % 2 = 0 ∧ S i = x then 1 else 0) (if_neg (fun z => z.1.2 rfl)) (fun i hi => by
      by_cases c : s / 2 ^ i % 2 = 0 ∧ S i = x
      · exact (if_pos ⟨⟨c.1, hi⟩, c.2⟩).trans (if_pos c).symm
      · exact (if_neg (fun z => c ⟨z.1.1, z.2⟩)).trans (if_neg c).symm) n
    rw [if_pos hk] at h
    exact h
  rw [e1]
  by_cases c : x = S k
  · rw [if_pos ⟨hb, c.symm⟩] at e2
    rw [← c, dec1, at1_s]
    omega
  · rw [if_neg (fun z => c z.2.symm)] at e2
    rw [dec1, at1_n c]
    exact e2
theorem cnt_sum {S : Nat → Nat} {s n : Nat} (hn : n ≤ 9) (hs : s < 2 ^ n) (hS : ∀ k, k < n → S k < 6) : su (cnt S s n) + popc s = n := by
  have h := unset_cnt n (by omega) s hs
  rw [regroup (h := fun _ => 1) n hS] at h
  simp only [Nat.mul_one] at h
  exact h
/-- the ways by subsets are the product -/
theorem wv_EE {S W : Nat → Nat} {np : Nat} {may : Nat → Nat → Bool} (hnp : np ≤ 9) (hS : ∀ k, k < np → S k < 6) (hW : ∀ p, p < np → W p ≤ 6) (hm : ∀ k p, k < np → p < np → (may k p = true ↔ W p = 6 ∨ S k = W p)) : ∀ r s, s < 2 ^ np → popc s + r = np → wv np may r s = EE W (cnt S s np) (popc s) r := by
  intro r
  induction r with
  | zero =>
    intro s hs hp
    rw [wv]
    unfold EE pr
    simp [dem, fall, fac]
  | succ r ih =>
    intro s hs hp
    have h512 := (pow_le np (by omega)).2
    have hW' : ∀ i, i < popc s + (r + 1) → W i ≤ 6 := fun i hi => hW i (by omega)
    have hsum := cnt_sum (S := S) hnp hs hS
    rw [wv]
    by_cases c : W (popc s) = 6
    · rw [EE_any c hW' (by omega), ← regroup (h := fun x => EE W (dec1 (cnt S s np) x) (popc s + 1) r) np hS]
      refine wsum_congr np (fun k hk => ?_)
      have m : may k (popc s) = true := (hm k (popc s) hk (by omega)).mpr (Or.inl c)
      by_cases b : s / 2 ^ k % 2 = 0
      · rw [if_pos ⟨b, m⟩, if_pos b, ih (s + 2 ^ k) (bit_lt np (by omega) s hs k hk b) (by rw [popc_or s (by omega) k (by omega) b]; omega), popc_or s (by omega) k (by omega) b]
        exact EE_congr (fun x _ => cnt_dec (by omega) hk hnp b)
      · rw [if_neg (fun z => b z.1), if_neg b]
    · have w6 : W (popc s) < 6 := by have := hW' (popc s) (by omega); omega
      rw [EE_spec (p := popc s) rfl w6, ← regroup1 (h := fun x => EE W (dec1 (cnt S s np) x) (popc s + 1) r) np]
      refine wsum_congr np (fun k hk => ?_)
      have m := hm k (popc s) hk (by omega)
      by_cases b : s / 2 ^ k % 2 = 0 ∧ S k = W (popc s)
      · rw [if_pos ⟨b.1, m.mpr (Or.inr b.2)⟩, if_pos b, ih (s + 2 ^ k) (bit_lt np (by omega) s hs k hk b.1) (by rw [popc_or s (by omega) k (by omega) b.1]; omega), popc_or s (by omega) k (by omega) b.1]
        exact EE_congr (fun x _ => cnt_dec (by omega) hk hnp b.1)
      · rw [if_neg (fun z => b ⟨z.1, by rcases m.mp z.2 with q | q; exact absurd q c; exact q⟩), if_neg b]
end Q13
