theorem z_jltI {x y : Int32} {a b : Nat} (hx : x = nI a) (ha : a < 2 ^ 31) (hy : y = nI b) (hb : b < 2 ^ 31) (h : x < y) : a < b := by rw [hx, hy] at h; exact (nI_ltI ha hb).mp h
def wsum (g : Nat → Nat) : Nat → Nat
  | 0 => 0
  | n + 1 => wsum g n + g n
def fac : Nat → Nat
  | 0 => 1
  | n + 1 => (n + 1) * fac n
def wv (np : Nat) (may : Nat → Nat → Bool) : Nat → Nat → Nat
  | 0, _ => 1
  | r + 1, s => wsum (fun k => if s / 2 ^ k % 2 = 0 ∧ may k (popc s) = true then wv np may r (s + 2 ^ k) else 0) np
def pmay (sl dr : Int32) (ko bo yo sh : Nat → Int32) (f0 k j : Nat) : Bool := decide (¬ F_X6_mayLie sl dr ko bo yo (nI k) (nI j) (sh (f0 + j)) = 0)
theorem wsum_le {g h : Nat → Nat} {B : Nat} : ∀ n, (∀ k, k < n → g k ≤ h k * B) → wsum g n ≤ wsum h n * B := by
  intro n
  induction n with
  | zero => intro _; exact Nat.zero_le _
  | succ n ih =>
    intro q
    have a := ih (fun k hk => q k (by omega))
    have b := q n (by omega)
    rw [wsum, wsum, Nat.add_mul]; omega
theorem wsum_congr {g h : Nat → Nat} : ∀ n, (∀ k, k < n → g k = h k) → wsum g n = wsum h n := by
  intro n
  induction n with
  | zero => intro _; rfl
  | succ n ih => intro q; rw [wsum, wsum, ih (fun k hk => q k (by omega)), q n (by omega)]
theorem wsum_pos {g : Nat → Nat} : ∀ n, 0 < wsum g n → ∃ k, k < n ∧ 0 < g k := by
  intro n
  induction n with
  | zero => intro q; exact absurd q (Nat.lt_irrefl 0)
  | succ n ih =>
    intro q
    rw [wsum] at q
    rcases (by omega : 0 < wsum g n ∨ 0 < g n) with h | h
    · obtain ⟨k, h1, h2⟩ := ih h; exact ⟨k, by omega, h2⟩
    · exact ⟨n, by omega, h⟩
set_option maxRecDepth 20000 in
theorem unset_cnt : ∀ n, n < 10 → ∀ s, s < 2 ^ n → wsum (fun k => if s / 2 ^ k % 2 = 0 then 1 else 0) n + popc s = n := by decide +kernel
set_option maxRecDepth 20000 in
theorem popc_lt : ∀ n, n < 10 → ∀ s, s < 2 ^ n → s ≠ 2 ^ n - 1 → popc s < n := by decide +kernel
theorem popc_ev : ∀ n, n < 10 → popc (2 ^ n - 1) = n := by decide +kernel
set_option maxRecDepth 20000 in
theorem bit_ev : ∀ n, n < 10 → ∀ k, k < n → ¬ (2 ^ n - 1) / 2 ^ k % 2 = 0 := by decide +kernel
theorem fac9 : ∀ n, n < 10 → fac n ≤ 362880 := by decide
theorem wv_le {np : Nat} {may : Nat → Nat → Bool} (hnp : np ≤ 9) : ∀ r s, s < 2 ^ np → popc s + r = np → wv np may r s ≤ fac r := by
  intro r
  induction r with
  | zero => intro s _ _; exact Nat.le_refl _
  | succ r ih =>
    intro s hs hp
    rw [wv, fac]
    have hu := unset_cnt np (by omega) s hs
    have h512 := (pow_le np (by omega)).2
    have hb : wsum (fun k => if s / 2 ^ k % 2 = 0 ∧ may k (popc s) = true then wv np may r (s + 2 ^ k) else 0) np ≤ wsum (fun k => if s / 2 ^ k % 2 = 0 then 1 else 0) np * fac r := by
      refine wsum_le np (fun k hk => ?_)
      by_cases c : s / 2 ^ k % 2 = 0
      · by_cases c2 : may k (popc s) = true
        · rw [if_pos ⟨c, c2⟩, if_pos c, Nat.one_mul]
          exact ih _ (bit_lt np (by omega) s hs k hk c) (by rw [popc_or s (by omega) k (by omega) c]; omega)
        · rw [if_neg (fun q => c2 q.2)]; exact Nat.zero_le _
      · rw [if_neg (fun q => c q.1)]; exact Nat.zero_le _
    have e : wsum (fun k => if s / 2 ^ k % 2 = 0 then 1 else 0) np = r + 1 := by omega
    rw [e] at hb
    exact hb
theorem cw_in {pn sl dr tf : Int32} {ko bo yo sh : Nat → Int32} {np f0 s c : Nat} {V : Nat → Nat} (hpn : pn = nI np) (hnp : np ≤ 9) (hf0 : tf = nI f0) (hfn : f0 + np ≤ 240) (hs : s < 2 ^ np) (K : Int32 → (Nat → Int32) → (Nat → Int32)) :
    ∀ (d j : Nat) (wo : Nat → Int32), j ≤ np → np < j + d → (∀ t, s < t → t < 2 ^ np → wo t = nI (V t)) →
      wo s = nI (c + wsum (fun k => if s / 2 ^ k % 2 = 0 ∧ pmay sl dr ko bo yo sh f0 k (popc s) = true then V (s + 2 ^ k) else 0) j) →
      ∃ wo' : Nat → Int32, F_X6_countWays_l40 pn sl dr ko bo yo sh tf (nI s) K d (nI j) wo = K (nI np) wo' ∧ (∀ t, t ≠ s → wo' t = wo t) ∧
        wo' s = nI (c + wsum (fun k => if s / 2 ^ k % 2 = 0 ∧ pmay sl dr ko bo yo sh f0 k (popc s) = true then V (s + 2 ^ k) else 0) np) := by
  have h512 := (pow_le np (by omega)).2
  have ec : (nI s).toNatClampNeg = s := nI_clamp (by omega)
  intro d
  induction d with
  | zero => intro j wo hj hd _ _; exfalso; omega
  | succ d ih =>
    intro j wo hj hd hup hws
    rw [F_X6_countWays_l40]
    by_cases c1 : pn ≤ nI j
    · rw [if_pos c1]
      have : np ≤ j := z_jge (n := np) rfl (by omega) (z_tiN hpn (by omega)) c1
      have ej : j = np := by omega
      subst ej
      exact ⟨wo, rfl, fun _ _ => rfl, hws⟩
    · rw [if_neg c1]
      have hjn : j < np := z_jlt (n := np) rfl (by omega) (z_tiN hpn (by omega)) c1
      have step : ∀ (v : Nat), v = (if s / 2 ^ j % 2 = 0 ∧ pmay sl dr ko bo yo sh f0 j (popc s) = true then V (s + 2 ^ j) else 0) →
          ∃ wo' : Nat → Int32, F_X6_countWays_l40 pn sl dr ko bo yo sh tf (nI s) K d (nI j + (1 : Int32)) (upd wo (nI s).toNatClampNeg (wo (nI s).toNatClampNeg + nI v)) = K (nI np) wo' ∧ (∀ t, t ≠ s → wo' t = wo t) ∧
        wo' s = nI (c + wsum (fun k => if s / 2 ^ k % 2 = 0 ∧ pmay sl dr ko bo yo sh f0 k (popc s) = true then V (s + 2 ^ k) else 0) np) := by
        intro v hv
        rw [ec, nI_1]
        obtain ⟨w', g1, g2, g3⟩ := ih (j + 1) (upd wo s (wo s + nI v)) (by omega) (by omega) (fun t h1 h2 => by rw [pk_un (by omega)]; exact hup t h1 h2) (by rw [pk_us, hws, nI_add, wsum, ← hv, Nat.add_assoc])
        exact ⟨w', g1, fun t ht => by rw [g2 t ht, pk_un ht], g3⟩
      by_cases c2 : F_X6_isIn (nI s) (nI j) = 0
      · rw [if_pos c2]
        have hin := (isIn_e s (by omega) j (by omega)).mp c2
        have hlt := bit_lt np (by omega) s hs j hjn hin
        have hpl := popc_le np (by omega) _ hlt
        rw [popc_or s (by omega) j (by omega) hin] at hpl
        have ei : (tf + F_X6_bits (nI s)).toNatClampNeg = f0 + popc s := by rw [bits_e s (by omega), hf0, nI_add]; exact nI_clamp (by omega)
        rw [ei, bits_e s (by omega)]
        by_cases c3 : F_X6_mayLie sl dr ko bo yo (nI j) (nI (popc s)) (sh (f0 + popc s)) = 0
        · rw [if_pos c3]
          refine step 0 ?_
          rw [if_neg (fun q => absurd q.2 (by unfold pmay; rw [decide_eq_true_eq]; exact fun h => h c3))]
        · rw [if_neg c3, or_e s (by omega) j (by omega) hin, show (nI (s + 2 ^ j)).toNatClampNeg = s + 2 ^ j from nI_clamp (by omega), hup (s + 2 ^ j) (by have := Nat.two_pow_pos j; omega) hlt]
          refine step _ ?_
          rw [if_pos ⟨hin, by unfold pmay; exact decide_eq_true c3⟩]
      · rw [if_neg c2]
        refine step 0 ?_
        rw [if_neg (fun q => c2 ((isIn_e s (by omega) j (by omega)).mpr q.1))]
theorem cw_out {pn sl dr tf : Int32} {ko bo yo sh : Nat → Int32} {np f0 : Nat} (hpn : pn = nI np) (hnp : np ≤ 9) (hf0 : tf = nI f0) (hfn : f0 + np ≤ 240) :
    ∀ (d a : Nat) (wo : Nat → Int32), a ≤ 2 ^ np → a < d → (∀ t, a ≤ t → t < 2 ^ np → wo t = nI (wv np (pmay sl dr ko bo yo sh f0) (np - popc t) t)) →
      ∀ t, t < 2 ^ np → F_X6_countWays_l11 pn sl dr ko bo yo sh tf F_X6_countWays_k11 d (nI a - 1) wo t = nI (wv np (pmay sl dr ko bo yo sh f0) (np - popc t) t) := by
  have h512 := (pow_le np (by omega)).2
  intro d
  induction d with
  | zero => intro a wo _ hd; exact absurd hd (by omega)
  | succ d ih =>
    intro a wo ha hd hup t ht
    rw [F_X6_countWays_l11]
    by_cases c1 : nI a - 1 < 0
    · rw [if_pos c1]
      have := z_dn0 rfl (by omega) c1
      exact hup t (by omega) ht
    · rw [if_neg c1]
      obtain ⟨ha1, -, hx⟩ := z_dn rfl (by omega) c1
      rw [hx]
      have main : ∀ c : Nat, (c + wsum (fun k => if (a - 1) / 2 ^ k % 2 = 0 ∧ pmay sl dr ko bo yo sh f0 k (popc (a - 1)) = true then wv np (pmay sl dr ko bo yo sh f0) (np - popc (a - 1 + 2 ^ k)) (a - 1 + 2 ^ k) else 0) np = wv np (pmay sl dr ko bo yo sh f0) (np - popc (a - 1)) (a - 1)) →
          F_X6_countWays_j36 (fun x3_11_r wo_11_r => F_X6_countWays_l11 pn sl dr ko bo yo sh tf F_X6_countWays_k11 d x3_11_r wo_11_r) pn sl dr ko bo yo sh tf (nI (a - 1)) wo (nI c) t = nI (wv np (pmay sl dr ko bo yo sh f0) (np - popc t) t) := by
        intro c hc
        rw [F_X6_countWays_j36, show (nI (a - 1)).toNatClampNeg = a - 1 from nI_clamp (by omega)]
        obtain ⟨w', g1, g2, g3⟩ := cw_in (sl := sl) (dr := dr) (ko := ko) (bo := bo) (yo := yo) (sh := sh) (c := c) (V := fun t => wv np (pmay sl dr ko bo yo sh f0) (np - popc t) t) hpn hnp hf0 hfn (show a - 1 < 2 ^ np by omega) (F_X6_countWays_k40 (fun x3_11_r wo_11_r => F_X6_countWays_l11 pn sl dr ko bo yo sh tf F_X6_countWays_k11 d x3_11_r wo_11_r) (nI (a - 1))) 10 0 (upd wo (a - 1) (nI c)) (by omega) (by omega) (fun t h1 h2 => by rw [pk_un (by omega)]; exact hup t (by omega) h2) (by rw [pk_us]; rfl)
        rw [show (0 : Int32) = nI 0 from rfl, g1, F_X6_countWays_k40]
        have e : nI (a - 1) + (-1 : Int32) = nI (a - 1) - 1 := by rw [Int32.sub_eq_add_neg]
        rw [e]
        refine ih (a - 1) w' (by omega) (by omega) (fun t h1 h2 => ?_) t ht
        rcases (by omega : t = a - 1 ∨ a ≤ t) with q | q
        · rw [q, g3, hc]
        · rw [g2 t (by omega), pk_un (by omega)]; exact hup t q h2
      have ee : ((1 : Int32) <<< (pn &&& 31)) - (1 : Int32) = nI (2 ^ np - 1) := by
        rw [hpn, every_e np (by omega)]; exact pk_sub (b := 1) (by omega)
      rw [ee]
      by_cases c2 : nI (a - 1) = nI (2 ^ np - 1)
      · rw [if_pos c2]
        have e := nI_inj (by omega) (by omega) c2
        refine main 1 ?_
        rw [e, popc_ev np (by omega), Nat.sub_self, wv]
        have z : wsum (fun k => if (2 ^ np - 1) / 2 ^ k % 2 = 0 ∧ pmay sl dr ko bo yo sh f0 k np = true then wv np (pmay sl dr ko bo yo sh f0) (np - popc (2 ^ np - 1 + 2 ^ k)) (2 ^ np - 1 + 2 ^ k) else 0) np = wsum (fun _ => 0) np := wsum_congr np (fun k hk => if_neg (fun q => bit_ev np (by omega) k hk q.1))
        have z2 : ∀ n, wsum (fun _ => 0) n = 0 := fun n => by
          induction n with
          | zero => rfl
          | succ n i => rw [wsum, i]
        rw [z, z2]
      · rw [if_neg c2]
        have hne : a - 1 ≠ 2 ^ np - 1 := fun q => c2 (by rw [q])
        have hpl := popc_lt np (by omega) (a - 1) (by omega) hne
        refine main 0 ?_
        obtain ⟨r, hr⟩ : ∃ r, np - popc (a - 1) = r + 1 := ⟨np - popc (a - 1) - 1, by omega⟩
        rw [hr, wv, Nat.zero_add]
        refine wsum_congr np (fun k hk => ?_)
        by_cases c3 : (a - 1) / 2 ^ k % 2 = 0 ∧ pmay sl dr ko bo yo sh f0 k (popc (a - 1)) = true
        · rw [if_pos c3, if_pos c3, popc_or (a - 1) (by omega) k (by omega) c3.1, show np - (popc (a - 1) + 1) = r by omega]
        · rw [if_neg c3, if_neg c3]
theorem cw_val {pn sl dr tf : Int32} {ko bo yo wo sh : Nat → Int32} {np f0 : Nat} (hpn : pn = nI np) (hnp : np ≤ 9) (hf0 : tf = nI f0) (hfn : f0 + np ≤ 240) (t : Nat) (ht : t < 2 ^ np) : F_X6_countWays pn sl dr ko bo yo wo sh tf t = nI (wv np (pmay sl dr ko bo yo sh f0) (np - popc t) t) := by
  have h512 := (pow_le np (by omega)).2
  rw [F_X6_countWays, hpn, every_e np (by omega)]
  exact cw_out (pn := nI np) rfl hnp hf0 hfn 513 (2 ^ np) wo (Nat.le_refl _) (by omega) (fun t h1 h2 => absurd h1 (by omega)) t ht
theorem nI_gt0 {n : Nat} (h : n < 2 ^ 31) : 0 < nI n ↔ 0 < n := by
  have e := nI_toInt h
  rw [Int32.lt_iff_toInt_lt, e, show (0 : Int32).toInt = 0 by decide]
  omega
theorem cw_pos {pn sl dr tf : Int32} {ko bo yo wo sh : Nat → Int32} {np f0 : Nat} (hpn : pn = nI np) (hnp : np ≤ 9) (hf0 : tf = nI f0) (hfn : f0 + np ≤ 240) (t : Nat) (ht : t < 2 ^ np) : 0 < F_X6_countWays pn sl dr ko bo yo wo sh tf t ↔ 0 < wv np (pmay sl dr ko bo yo sh f0) (np - popc t) t := by
  rw [cw_val hpn hnp hf0 hfn t ht]
  have hpl := popc_le np (by omega) t ht
  have a := wv_le (may := pmay sl dr ko bo yo sh f0) hnp (np - popc t) t ht (by omega)
  have b := fac9 (np - popc t) (by omega)
  exact nI_gt0 (by omega)
theorem cw_W {pn sl dr tf : Int32} {ko bo yo wo sh : Nat → Int32} {np f0 : Nat} (hpn : pn = nI np) (hnp : np ≤ 9) (hf0 : tf = nI f0) (hfn : f0 + np ≤ 240) : ∀ s, s < 2 ^ np → popc s < np → 0 < F_X6_countWays pn sl dr ko bo yo wo sh tf s → ∃ k, k < np ∧ fiOK sl dr ko bo yo sh (F_X6_countWays pn sl dr ko bo yo wo sh tf) f0 s (popc s) k := by
  intro s hs hp hw
  have h512 := (pow_le np (by omega)).2
  have h1 := (cw_pos hpn hnp hf0 hfn s hs).mp hw
  obtain ⟨r, hr⟩ : ∃ r, np - popc s = r + 1 := ⟨np - popc s - 1, by omega⟩
  rw [hr, wv] at h1
  obtain ⟨k, hk, hg⟩ := wsum_pos np h1
  by_cases c3 : s / 2 ^ k % 2 = 0 ∧ pmay sl dr ko bo yo sh f0 k (popc s) = true
  · rw [if_pos c3] at hg
    refine ⟨k, hk, c3.1, of_decide_eq_true c3.2, ?_⟩
    have hlt := bit_lt np (by omega) s hs k hk c3.1
    rw [cw_pos hpn hnp hf0 hfn _ hlt, popc_or s (by omega) k (by omega) c3.1, show np - (popc s + 1) = r by omega]
    exact hg
  · rw [if_neg c3] at hg; exact absurd hg (by decide)
theorem cw_ne {pn sl dr tf : Int32} {ko bo yo wo sh : Nat → Int32} {np f0 : Nat} (hpn : pn = nI np) (hnp : np ≤ 9) (hf0 : tf = nI f0) (hfn : f0 + np ≤ 240) (h : ¬ F_X6_countWays pn sl dr ko bo yo wo sh tf 0 = 0) : 0 < F_X6_countWays pn sl dr ko bo yo wo sh tf 0 := by
  have h0 := Nat.two_pow_pos np
  rw [cw_pos hpn hnp hf0 hfn 0 h0]
  rw [cw_val hpn hnp hf0 hfn 0 h0] at h
  rcases Nat.eq_zero_or_pos (wv np (pmay sl dr ko bo yo sh f0) (np - popc 0) 0) with q | q
  · rw [q] at h; exact absurd rfl h
  · exact q
-- X6_layers
theorem m_X6_layers_1 : Cond.constantLong RX6 117 (2) ∈ wsX6_layers := List.mem_of_getElem? (i := 1) rfl
theorem m_X6_layers_2 : Cond.constantLong RX6 199 (-1) ∈ wsX6_layers := List.mem_of_getElem? (i := 2) rfl
theorem m_X6_layers_3 : Cond.constantLong RX6 201 (8) ∈ wsX6_layers := List.mem_of_getElem? (i := 3) rfl
theorem i_X6_layers_6 : ∀ w ∈ u_ws RX6 TX6 30, w ∈ wsX6_layers := by decide +kernel
theorem m_X6_layers_4 : Cond.fieldLink RX6 68 "WishPinsModel" "pins" "I" ∈ wsX6_layers := List.mem_of_getElem? (i := 4) rfl
theorem m_X6_layers_7 : Cond.fieldLink RX6 37 "WishPinsModel" "waysOn" "[I" ∈ wsX6_layers := List.mem_of_getElem? (i := 7) rfl
theorem m_X6_layers_5 : Cond.fieldLink RX6 52 "WishPinsModel" "sheet" "[I" ∈ wsX6_layers := List.mem_of_getElem? (i := 5) rfl
theorem m_X6_layers_6 : Cond.constantLong RX6 203 (6) ∈ wsX6_layers := List.mem_of_getElem? (i := 6) rfl
def F_X6_layers_k86 (pn : Int32) (sl : Int32) (dr : Int32) (ko : Nat → Int32) (bo : Nat → Int32) (yo : Nat → Int32) (wo : Nat → Int32) (sh : Nat → Int32) (k : Int32) (i : Int32) (pl : Int32) (x6_86 : Int32) : Int32 × Int32 × (Nat → Int32) :=
  (if 0 ≤ pl then (if ((F_X6_countWays pn sl dr ko bo yo wo sh (((60 : Int32) * k) + i)) (0 : Int32).toNatClampNeg) = 0 then ((F_X6_refused (-9 : Int32)).1, (F_X6_refused (-9 : Int32)).2, (F_X6_countWays pn sl dr ko bo yo wo sh (((60 : Int32) * k) + i))) else (if pl < pn then ((F_X6_refused (F_X6_firstIn pn sl dr ko bo yo (F_X6_countWays pn sl dr ko bo yo wo sh (((60 : Int32) * k) + i)) sh (((60 : Int32) * k) + i) pl)).1, (F_X6_refused (F_X6_firstIn pn sl dr ko bo yo (F_X6_countWays pn sl dr ko bo yo wo sh (((60 : Int32) * k) + i)) sh (((60 : Int32) * k) + i) pl)).2, (F_X6_countWays pn sl dr ko bo yo wo sh (((60 : Int32) * k) + i))) else ((F_X6_refused (-9 : Int32)).1, (F_X6_refused (-9 : Int32)).2, (F_X6_countWays pn sl dr ko bo yo wo sh (((60 : Int32) * k) + i))))) else ((F_X6_refused ((F_X6_countWays pn sl dr ko bo yo wo sh (((60 : Int32) * k) + i)) (0 : Int32).toNatClampNeg)).1, (F_X6_refused ((F_X6_countWays pn sl dr ko bo yo wo sh (((60 : Int32) * k) + i)) (0 : Int32).toNatClampNeg)).2, (F_X6_countWays pn sl dr ko bo yo wo sh (((60 : Int32) * k) + i))))
def F_X6_layers_l86 (pn : Int32) (wo : Nat → Int32) (sh : Nat → Int32) (k : Int32) (i : Int32) (K_ : Int32 → Int32 × Int32 × (Nat → Int32)) : Nat → Int32 → Int32 × Int32 × (Nat → Int32)
  | 0, x6_86 => K_ x6_86
  | d86 + 1, x6_86 => (if pn ≤ x6_86 then (K_ x6_86) else (if (F_X6_in ((sh ((((60 : Int32) * k) + i) + x6_86).toNatClampNeg).toInt64) (0 : Int64) (6 : Int64)) = 0 then ((F_X6_refused (-2 : Int32)).1, (F_X6_refused (-2 : Int32)).2, wo) else (F_X6_layers_l86 pn wo sh k i K_ d86 (x6_86 + (1 : Int32)))))
def F_X6_layers (fl : Int32) (pn : Int32) (sl : Int32) (dr : Int32) (ko : Nat → Int32) (bo : Nat → Int32) (yo : Nat → Int32) (wo : Nat → Int32) (ss : Nat → Int32) (sa : Nat → Int32) (sh : Nat → Int32) (k : Int32) (la : Int32) (i : Int32) (pl : Int32) : Int32 × Int32 × (Nat → Int32) :=
  (if (F_X6_noSheet k) = 0 then (if (F_X6_in la.toInt64 (0 : Int64) (2 : Int64)) = 0 then ((F_X6_refused (-2 : Int32)).1, (F_X6_refused (-2 : Int32)).2, wo) else (if (F_X6_in pl.toInt64 (-1 : Int64) (8 : Int64)) = 0 then ((F_X6_refused (-2 : Int32)).1, (F_X6_refused (-2 : Int32)).2, wo) else (if pn = 0 then ((F_X6_refused (-3 : Int32)).1, (F_X6_refused (-3 : Int32)).2, wo) else (if 0 ≤ (F_X6_cellsBarred fl ss sa k la i pn.toInt64).1 then (F_X6_layers_l86 pn wo sh k i (F_X6_layers_k86 pn sl dr ko bo yo wo sh k i pl) 10 (0 : Int32)) else ((F_X6_cellsBarred fl ss sa k la i pn.toInt64).1, (F_X6_cellsBarred fl ss sa k la i pn.toInt64).2, wo))))) else ((F_X6_refused (-1 : Int32)).1, (F_X6_refused (-1 : Int32)).2, wo))
set_option maxHeartbeats 4000000 in
set_option maxRecDepth 100000 in
theorem c_X6_layers (l : Launch) (D : va_G) (cI cO : ClassId) (h6 : Nat) (q : Nat → Nat) (fl : Int32) (pn : Int32) (sl : Int32) (dr : Int32) (yn : Int32) (ra : Int32) (rp : Int32) (rs : Int32) (rd : Int32) (ry : Int32) (pk : Int32) (yk : Int32) (rg : Int32) (tc : Int32) (ko : Nat → Int32) (bo : Nat → Int32) (yo : Nat → Int32) (wo : Nat → Int32) (ss : Nat → Int32) (sa : Nat → Int32) (sh : Nat → Int32) (k : Int32) (la : Int32) (i : Int32) (pl : Int32) (np : Nat) (hss : ∀ i, i < 4 → (ss i).toInt ≤ 60) (hpn : pn = nI np) (hnp : np ≤ 9) : zW l yX6_layers wsX6_layers ({ frames := 4, cells := 0, slots := 0, locals := 92 } : Room) D cI cO [.ref h6, .int k, .int la, .int i, .int pl] [(h6, .inr (6, fM fl pn sl dr yn ra rp rs rd ry pk yk rg tc q)), ((q 5), .inl (cI, 9, .inl ko)), ((q 6), .inl (cI, 9, .inl bo)), ((q 7), .inl (cI, 9, .inl yo)), ((q 21), .inl (cI, 512, .inl wo)), ((q 25), .inl (cI, 4, .inl ss)), ((q 26), .inl (cI, 4, .inl sa)), ((q 27), .inl (cI, 240, .inl sh))] [(h6, .inr (6, fM ((F_X6_layers fl pn sl dr ko bo yo wo ss sa sh k la i pl).2.1) pn sl dr yn ra rp rs rd ry pk yk rg tc q)), ((q 5), .inl (cI, 9, .inl ko)), ((q 6), .inl (cI, 9, .inl bo)), ((q 7), .inl (cI, 9, .inl yo)), ((q 21), .inl (cI, 512, .inl ((F_X6_layers fl pn sl dr ko bo yo wo ss sa sh k la i pl).2.2))), ((q 25), .inl (cI, 4, .inl ss)), ((q 26), .inl (cI, 4, .inl sa)), ((q 27), .inl (cI, 240, .inl sh))] (some (.int ((F_X6_layers fl pn sl dr ko bo yo wo ss sa sh k la i pl).1))) := by
  refine zW_of (nL := 7) (cc := cX6_layers) (ret := some .int) (lv := [(0, .ref h6), (1, .int k), (2, .int la), (3, .int i), (4, .int pl)]) (by decide +kernel) rfl (Nat.le_of_ble_eq_true rfl) rfl (fun p e s m args below meth c C hr hlk => ?_)
  have hf := F_X6_layers.eq_1 fl pn sl dr ko bo yo wo ss sa sh k la i pl
  refine z_iload_n C dX6_layers_0 rfl 1 rfl ?_
  refine z_cSR (As := [.int k]) C (c_X6_noSheet l D cI cO k) (va_cwS 1 C.2.2.2.2.1 gX6_layers_X6_noSheet rfl rfl rfl hdS_X6_noSheet ⟨Nat.le_of_ble_eq_true rfl, Nat.le_of_ble_eq_true rfl⟩) [] rfl rfl rfl _ rfl (Nat.le_of_ble_eq_true rfl) ⟨Nat.zero_le _, Nat.zero_le _⟩ dX6_layers_1 ?_
  generalize hu1 : (F_X6_noSheet k) = u1 at hf ⊢
  refine z_if_eq (tgt := 13) C dX6_layers_4 (by decide) (fun c4 => ?_) (fun c4 => ?_)
  · rw [if_pos c4] at hf
    have b4 := c4
    rw [← hu1] at c4
    refine z_iload_n C dX6_layers_13 rfl 2 rfl ?_
    refine z_i2l C dX6_layers_14 ?_
    refine z_lconst (v := (0 : Int64)) C dX6_layers_15 (by decide) ?_
    refine z_ldc2 C m_X6_layers_1 dX6_layers_16 ?_
    refine z_cSR (As := [.long la.toInt64, .long (0 : Int64), .long (2 : Int64)]) C (c_X6_in l D cI cO la.toInt64 (0 : Int64) (2 : Int64)) (va_cwS 3 C.2.2.2.2.1 gX6_layers_X6_in rfl rfl rfl hdS_X6_in ⟨Nat.le_of_ble_eq_true rfl, Nat.le_of_ble_eq_true rfl⟩) [] rfl rfl rfl _ rfl (Nat.le_of_ble_eq_true rfl) ⟨Nat.zero_le _, Nat.zero_le _⟩ dX6_layers_19 ?_
    generalize hu19 : (F_X6_in la.toInt64 (0 : Int64) (2 : Int64)) = u19 at hf ⊢
    refine z_if_eq (tgt := 40) C dX6_layers_22 (by decide) (fun c22 => ?_) (fun c22 => ?_)
    · rw [if_pos c22] at hf
      have b22 := c22
      rw [← hu19] at c22
      refine z_aload_n C dX6_layers_40 rfl 0 rfl ?_
      refine z_bipush (v := (-2 : Int32)) C dX6_layers_41 (by decide) ?_
      refine z_cVW (As := [.int (-2 : Int32)]) C (c_X6_refused l D cI cO h6 q fl pn sl dr yn ra rp rs rd ry pk yk rg tc (-2 : Int32)) (cwV 1 C.2.2.2.2.1 gX6_layers_X6_refused rfl rfl rfl hdV_X6_refused ⟨Nat.le_of_ble_eq_true rfl, Nat.le_of_ble_eq_true rfl⟩) [(h6, .inr (6, fM ((F_X6_refused (-2 : Int32)).2) pn sl dr yn ra rp rs rd ry pk yk rg tc q)), ((q 5), .inl (cI, 9, .inl ko)), ((q 6), .inl (cI, 9, .inl bo)), ((q 7), .inl (cI, 9, .inl yo)), ((q 21), .inl (cI, 512, .inl wo)), ((q 25), .inl (cI, 4, .inl ss)), ((q 26), .inl (cI, 4, .inl sa)), ((q 27), .inl (cI, 240, .inl sh))] [0] rfl rfl (Eq.refl [h6]) rfl 0 rfl rfl rfl _ rfl (Nat.le_of_ble_eq_true rfl) ⟨Nat.zero_le _, Nat.zero_le _⟩ dX6_layers_43 ?_
      generalize hu43 : (F_X6_refused (-2 : Int32)) = u43 at hf ⊢
      exact z_iretW C hr hlk (by rw [hf]) (by rw [hf]) dX6_layers_46
    · rw [if_neg c22] at hf
      have b22 := c22
      rw [← hu19] at c22
      refine z_iload C dX6_layers_25 4 rfl ?_
      refine z_i2l C dX6_layers_27 ?_
      refine z_ldc2 C m_X6_layers_2 dX6_layers_28 ?_
      refine z_ldc2 C m_X6_layers_3 dX6_layers_31 ?_
      refine z_cSR (As := [.long pl.toInt64, .long (-1 : Int64), .long (8 : Int64)]) C (c_X6_in l D cI cO pl.toInt64 (-1 : Int64) (8 : Int64)) (va_cwS 3 C.2.2.2.2.1 gX6_layers_X6_in rfl rfl rfl hdS_X6_in ⟨Nat.le_of_ble_eq_true rfl, Nat.le_of_ble_eq_true rfl⟩) [] rfl rfl rfl _ rfl (Nat.le_of_ble_eq_true rfl) ⟨Nat.zero_le _, Nat.zero_le _⟩ dX6_layers_34 ?_
      generalize hu34 : (F_X6_in pl.toInt64 (-1 : Int64) (8 : Int64)) = u34 at hf ⊢
      refine z_if_ne (tgt := 47) C dX6_layers_37 (by decide) (fun c37 => ?_) (fun c37 => ?_)
      · rw [if_neg c37] at hf
        have b37 := c37
        rw [← hu34] at c37
        refine z_aload_n C dX6_layers_47 rfl 0 rfl ?_
        refine z_get (T := TX6) (v := .int pn) C i_X6_layers_6 0 rfl rfl 1 (by decide) m_X6_layers_4 rfl rfl dX6_layers_48 ?_
        refine z_if_ne (tgt := 61) C dX6_layers_51 (by decide) (fun c51 => ?_) (fun c51 => ?_)
        · rw [if_neg c51] at hf
          refine z_aload_n C dX6_layers_61 rfl 0 rfl ?_
          refine z_iload_n C dX6_layers_62 rfl 1 rfl ?_
          refine z_iload_n C dX6_layers_63 rfl 2 rfl ?_
          refine z_iload_n C dX6_layers_64 rfl 3 rfl ?_
          refine z_aload_n C dX6_layers_65 rfl 0 rfl ?_
          refine z_get (T := TX6) (v := .int pn) C i_X6_layers_6 0 rfl rfl 1 (by decide) m_X6_layers_4 rfl rfl dX6_layers_66 ?_
          refine z_i2l C dX6_layers_69 ?_
          refine z_cVW (As := [.int k, .int la, .int i, .long pn.toInt64]) C (c_X6_cellsBarred l D cI cO h6 q fl pn sl dr yn ra rp rs rd ry pk yk rg tc ss sa k la i pn.toInt64 (by subst hu34 hu19 hu1; exact (noSheet_k c4))) (cwV 4 C.2.2.2.2.1 gX6_layers_X6_cellsBarred rfl rfl rfl hdV_X6_cellsBarred ⟨Nat.le_of_ble_eq_true rfl, Nat.le_of_ble_eq_true rfl⟩) [(h6, .inr (6, fM ((F_X6_cellsBarred fl ss sa k la i pn.toInt64).2) pn sl dr yn ra rp rs rd ry pk yk rg tc q)), ((q 5), .inl (cI, 9, .inl ko)), ((q 6), .inl (cI, 9, .inl bo)), ((q 7), .inl (cI, 9, .inl yo)), ((q 21), .inl (cI, 512, .inl wo)), ((q 25), .inl (cI, 4, .inl ss)), ((q 26), .inl (cI, 4, .inl sa)), ((q 27), .inl (cI, 240, .inl sh))] [0, 5, 6] rfl rfl (Eq.refl [h6, (q 25), (q 26)]) rfl 0 rfl rfl rfl _ rfl (Nat.le_of_ble_eq_true rfl) ⟨Nat.zero_le _, Nat.zero_le _⟩ dX6_layers_70 ?_
          generalize hu70 : (F_X6_cellsBarred fl ss sa k la i pn.toInt64) = u70 at hf ⊢
          refine z_istore C [(0, .ref h6), (1, .int k), (2, .int la), (3, .int i), (4, .int pl), (5, .int u70.1)] dX6_layers_73 (by decide) [1, 2, 3, 4, 5, 0] rfl ?_
          refine z_iload C dX6_layers_75 5 rfl ?_
          refine z_if_ge (tgt := 83) C dX6_layers_77 (by decide) (fun c77 => ?_) (fun c77 => ?_)
          · rw [if_pos c77] at hf
            have b77 := c77
            rw [← hu70] at c77
            obtain ⟨k0, hk0, hk1⟩ := noSheet_in c4
            have hbar := barred_in hk1 hk0 c77
            obtain ⟨a0, N0, ha0, hN1, haN⟩ := beyond_in (hss k0 hk0) hbar.2
            have hNN := nI_inj (by omega) (by omega) (hpn.symm.trans hN1)
            refine z_iconst (v := (0 : Int32)) C dX6_layers_83 (by decide) ?_
            refine z_istore C [(0, .ref h6), (1, .int k), (2, .int la), (3, .int i), (4, .int pl), (5, .int u70.1), (6, .int (0 : Int32))] dX6_layers_84 (by decide) [1, 2, 3, 4, 5, 6, 0] rfl ?_
            have X86 : ∀ (x6_86 : Int32), F_X6_layers fl pn sl dr ko bo yo wo ss sa sh k la i pl = (F_X6_layers_k86 pn sl dr ko bo yo wo sh k i pl) x6_86 → zG p l e ({ frames := 4, cells := 0, slots := 0, locals := 92 } : Room) s m args below meth c D (zA [(h6, .inr (6, fM fl pn sl dr yn ra rp rs rd ry pk yk rg tc q)), ((q 5), .inl (cI, 9, .inl ko)), ((q 6), .inl (cI, 9, .inl bo)), ((q 7), .inl (cI, 9, .inl yo)), ((q 21), .inl (cI, 512, .inl wo)), ((q 25), .inl (cI, 4, .inl ss)), ((q 26), .inl (cI, 4, .inl sa)), ((q 27), .inl (cI, 240, .inl sh))]) (zXw (zA [(h6, .inr (6, fM fl pn sl dr yn ra rp rs rd ry pk yk rg tc q)), ((q 5), .inl (cI, 9, .inl ko)), ((q 6), .inl (cI, 9, .inl bo)), ((q 7), .inl (cI, 9, .inl yo)), ((q 21), .inl (cI, 512, .inl wo)), ((q 25), .inl (cI, 4, .inl ss)), ((q 26), .inl (cI, 4, .inl sa)), ((q 27), .inl (cI, 240, .inl sh))]) s.heap) 7 0 0 (MQ below (zQw D [(h6, .inr (6, fM ((F_X6_layers fl pn sl dr ko bo yo wo ss sa sh k la i pl).2.1) pn sl dr yn ra rp rs rd ry pk yk rg tc q)), ((q 5), .inl (cI, 9, .inl ko)), ((q 6), .inl (cI, 9, .inl bo)), ((q 7), .inl (cI, 9, .inl yo)), ((q 21), .inl (cI, 512, .inl ((F_X6_layers fl pn sl dr ko bo yo wo ss sa sh k la i pl).2.2))), ((q 25), .inl (cI, 4, .inl ss)), ((q 26), .inl (cI, 4, .inl sa)), ((q 27), .inl (cI, 240, .inl sh))] (zA [(h6, .inr (6, fM fl pn sl dr yn ra rp rs rd ry pk yk rg tc q)), ((q 5), .inl (cI, 9, .inl ko)), ((q 6), .inl (cI, 9, .inl bo)), ((q 7), .inl (cI, 9, .inl yo)), ((q 21), .inl (cI, 512, .inl wo)), ((q 25), .inl (cI, 4, .inl ss)), ((q 26), .inl (cI, 4, .inl sa)), ((q 27), .inl (cI, 240, .inl sh))]) (some (.int ((F_X6_layers fl pn sl dr ko bo yo wo ss sa sh k la i pl).1)))) args s 0 0 (zA [(h6, .inr (6, fM fl pn sl dr yn ra rp rs rd ry pk yk rg tc q)), ((q 5), .inl (cI, 9, .inl ko)), ((q 6), .inl (cI, 9, .inl bo)), ((q 7), .inl (cI, 9, .inl yo)), ((q 21), .inl (cI, 512, .inl wo)), ((q 25), .inl (cI, 4, .inl ss)), ((q 26), .inl (cI, 4, .inl sa)), ((q 27), .inl (cI, 240, .inl sh))])) 133 [(0, .ref h6), (1, .int k), (2, .int la), (3, .int i), (4, .int pl), (5, .int u70.1), (6, .int x6_86)] [] [(h6, .inr (6, fM u70.2 pn sl dr yn ra rp rs rd ry pk yk rg tc q)), ((q 5), .inl (cI, 9, .inl ko)), ((q 6), .inl (cI, 9, .inl bo)), ((q 7), .inl (cI, 9, .inl yo)), ((q 21), .inl (cI, 512, .inl wo)), ((q 25), .inl (cI, 4, .inl ss)), ((q 26), .inl (cI, 4, .inl sa)), ((q 27), .inl (cI, 240, .inl sh))] := by
              intro x6_86 hf
              rw [F_X6_layers_k86] at hf
              skip
              refine z_aload_n C dX6_layers_133 rfl 0 rfl ?_
              refine z_bipush (v := (60 : Int32)) C dX6_layers_134 (by decide) ?_
              refine z_iload_n C dX6_layers_136 rfl 1 rfl ?_
              refine z_imul C dX6_layers_137 ?_
              refine z_iload_n C dX6_layers_138 rfl 3 rfl ?_
              refine z_iadd C dX6_layers_139 ?_
              refine z_cVW (As := [.int (((60 : Int32) * k) + i)]) C (c_X6_countWays l D cI cO h6 q u70.2 pn sl dr yn ra rp rs rd ry pk yk rg tc ko bo yo wo sh (((60 : Int32) * k) + i) np (60 * k0 + a0) (by subst hu70 hu34 hu19 hu1; exact hpn) (by subst hu70 hu34 hu19 hu1; exact hnp) (by subst hu70 hu34 hu19 hu1; exact (sheet_e hk1 ha0)) (by omega)) (cwV 1 C.2.2.2.2.1 gX6_layers_X6_countWays rfl rfl rfl hdV_X6_countWays ⟨Nat.le_of_ble_eq_true rfl, Nat.le_of_ble_eq_true rfl⟩) [(h6, .inr (6, fM u70.2 pn sl dr yn ra rp rs rd ry pk yk rg tc q)), ((q 5), .inl (cI, 9, .inl ko)), ((q 6), .inl (cI, 9, .inl bo)), ((q 7), .inl (cI, 9, .inl yo)), ((q 21), .inl (cI, 512, .inl (F_X6_countWays pn sl dr ko bo yo wo sh (((60 : Int32) * k) + i)))), ((q 25), .inl (cI, 4, .inl ss)), ((q 26), .inl (cI, 4, .inl sa)), ((q 27), .inl (cI, 240, .inl sh))] [0, 1, 2, 3, 4, 7] rfl rfl (Eq.refl [h6, (q 5), (q 6), (q 7), (q 21), (q 27)]) rfl 0 rfl rfl rfl _ rfl (Nat.le_of_ble_eq_true rfl) ⟨Nat.zero_le _, Nat.zero_le _⟩ dX6_layers_140 ?_
              generalize hu140 : (F_X6_countWays pn sl dr ko bo yo wo sh (((60 : Int32) * k) + i)) = u140 at hf ⊢
              refine z_iload C dX6_layers_143 4 rfl ?_
              refine z_if_ge (tgt := 159) C dX6_layers_145 (by decide) (fun c145 => ?_) (fun c145 => ?_)
              · rw [if_pos c145] at hf
                refine z_aload_n C dX6_layers_159 rfl 0 rfl ?_
                refine z_aload_n C dX6_layers_160 rfl 0 rfl ?_
                refine z_get (T := TX6) (v := .ref (q 21)) C i_X6_layers_6 0 rfl rfl 21 (by decide) m_X6_layers_7 rfl rfl dX6_layers_161 ?_
                refine z_iconst (v := (0 : Int32)) C dX6_layers_164 (by decide) ?_
                refine z_ald C 4 rfl (by subst hu140 hu70 hu34 hu19 hu1; exact (by unfold vp_in; decide)) dX6_layers_165 ?_
                refine z_if_eq (tgt := 178) C dX6_layers_166 (by decide) (fun c166 => ?_) (fun c166 => ?_)
                · rw [if_pos c166] at hf
                  have b166 := c166
                  rw [← hu140] at c166
                  refine z_bipush (v := (-9 : Int32)) C dX6_layers_178 (by decide) ?_
                  refine z_goto (tgt := 195) C dX6_layers_180 (by decide) ?_
                  refine z_cVW (As := [.int (-9 : Int32)]) C (c_X6_refused l D cI cO h6 q u70.2 pn sl dr yn ra rp rs rd ry pk yk rg tc (-9 : Int32)) (cwV 1 C.2.2.2.2.1 gX6_layers_X6_refused rfl rfl rfl hdV_X6_refused ⟨Nat.le_of_ble_eq_true rfl, Nat.le_of_ble_eq_true rfl⟩) [(h6, .inr (6, fM ((F_X6_refused (-9 : Int32)).2) pn sl dr yn ra rp rs rd ry pk yk rg tc q)), ((q 5), .inl (cI, 9, .inl ko)), ((q 6), .inl (cI, 9, .inl bo)), ((q 7), .inl (cI, 9, .inl yo)), ((q 21), .inl (cI, 512, .inl u140)), ((q 25), .inl (cI, 4, .inl ss)), ((q 26), .inl (cI, 4, .inl sa)), ((q 27), .inl (cI, 240, .inl sh))] [0] rfl rfl (Eq.refl [h6]) rfl 0 rfl rfl rfl _ rfl (Nat.le_of_ble_eq_true rfl) ⟨Nat.zero_le _, Nat.zero_le _⟩ dX6_layers_195 ?_
                  generalize hu195 : (F_X6_refused (-9 : Int32)) = u195 at hf ⊢
                  exact z_iretW C hr hlk (by rw [hf]) (by rw [hf]) dX6_layers_198
                · rw [if_neg c166] at hf
                  have b166 := c166
                  rw [← hu140] at c166
                  refine z_iload C dX6_layers_169 4 rfl ?_
                  refine z_aload_n C dX6_layers_171 rfl 0 rfl ?_
                  refine z_get (T := TX6) (v := .int pn) C i_X6_layers_6 0 rfl rfl 1 (by decide) m_X6_layers_4 rfl rfl dX6_layers_172 ?_
                  refine z_icmp_lt (tgt := 183) C dX6_layers_175 (by decide) (fun c175 => ?_) (fun c175 => ?_)
                  · rw [if_pos c175] at hf
                    obtain ⟨p0, hp1, hp⟩ := nI_of (x := pl) (Int32.not_lt.mpr c145)
                    have hp0 : p0 < np := z_jltI hp hp1 hpn (by omega) c175
                    have hne : ¬ u140 0 = 0 := b166
                    refine z_aload_n C dX6_layers_183 rfl 0 rfl ?_
                    refine z_bipush (v := (60 : Int32)) C dX6_layers_184 (by decide) ?_
                    refine z_iload_n C dX6_layers_186 rfl 1 rfl ?_
                    refine z_imul C dX6_layers_187 ?_
                    refine z_iload_n C dX6_layers_188 rfl 3 rfl ?_
                    refine z_iadd C dX6_layers_189 ?_
                    refine z_iload C dX6_layers_190 4 rfl ?_
                    refine z_cVR (As := [.int (((60 : Int32) * k) + i), .int pl]) C (c_X6_firstIn l D cI cO h6 q u70.2 pn sl dr yn ra rp rs rd ry pk yk rg tc ko bo yo u140 sh (((60 : Int32) * k) + i) pl np (60 * k0 + a0) p0 (by subst hu140 hu70 hu34 hu19 hu1; exact hpn) (by subst hu140 hu70 hu34 hu19 hu1; exact hnp) (by subst hu140 hu70 hu34 hu19 hu1; exact (sheet_e hk1 ha0)) (by omega) (by subst hu140 hu70 hu34 hu19 hu1; exact hp) (by subst hu140 hu70 hu34 hu19 hu1; exact hp0) (by subst hu140 hu70 hu34 hu19 hu1; exact (cw_ne hpn hnp (sheet_e hk1 ha0) (by omega) hne)) (by subst hu140 hu70 hu34 hu19 hu1; exact (cw_W hpn hnp (sheet_e hk1 ha0) (by omega)))) (cwV 2 C.2.2.2.2.1 gX6_layers_X6_firstIn rfl rfl rfl hdV_X6_firstIn ⟨Nat.le_of_ble_eq_true rfl, Nat.le_of_ble_eq_true rfl⟩) [0, 1, 2, 3, 4, 7] rfl rfl 0 rfl rfl rfl _ rfl (Nat.le_of_ble_eq_true rfl) ⟨Nat.zero_le _, Nat.zero_le _⟩ dX6_layers_192 ?_
                    generalize hu192 : (F_X6_firstIn pn sl dr ko bo yo u140 sh (((60 : Int32) * k) + i) pl) = u192 at hf ⊢
                    refine z_cVW (As := [.int u192]) C (c_X6_refused l D cI cO h6 q u70.2 pn sl dr yn ra rp rs rd ry pk yk rg tc u192) (cwV 1 C.2.2.2.2.1 gX6_layers_X6_refused rfl rfl rfl hdV_X6_refused ⟨Nat.le_of_ble_eq_true rfl, Nat.le_of_ble_eq_true rfl⟩) [(h6, .inr (6, fM ((F_X6_refused u192).2) pn sl dr yn ra rp rs rd ry pk yk rg tc q)), ((q 5), .inl (cI, 9, .inl ko)), ((q 6), .inl (cI, 9, .inl bo)), ((q 7), .inl (cI, 9, .inl yo)), ((q 21), .inl (cI, 512, .inl u140)), ((q 25), .inl (cI, 4, .inl ss)), ((q 26), .inl (cI, 4, .inl sa)), ((q 27), .inl (cI, 240, .inl sh))] [0] rfl rfl (Eq.refl [h6]) rfl 0 rfl rfl rfl _ rfl (Nat.le_of_ble_eq_true rfl) ⟨Nat.zero_le _, Nat.zero_le _⟩ dX6_layers_195 ?_
                    generalize hu195 : (F_X6_refused u192) = u195 at hf ⊢
                    exact z_iretW C hr hlk (by rw [hf]) (by rw [hf]) dX6_layers_198
                  · rw [if_neg c175] at hf
                    refine z_bipush (v := (-9 : Int32)) C dX6_layers_178 (by decide) ?_
                    refine z_goto (tgt := 195) C dX6_layers_180 (by decide) ?_
                    refine z_cVW (As := [.int (-9 : Int32)]) C (c_X6_refused l D cI cO h6 q u70.2 pn sl dr yn ra rp rs rd ry pk yk rg tc (-9 : Int32)) (cwV 1 C.2.2.2.2.1 gX6_layers_X6_refused rfl rfl rfl hdV_X6_refused ⟨Nat.le_of_ble_eq_true rfl, Nat.le_of_ble_eq_true rfl⟩) [(h6, .inr (6, fM ((F_X6_refused (-9 : Int32)).2) pn sl dr yn ra rp rs rd ry pk yk rg tc q)), ((q 5), .inl (cI, 9, .inl ko)), ((q 6), .inl (cI, 9, .inl bo)), ((q 7), .inl (cI, 9, .inl yo)), ((q 21), .inl (cI, 512, .inl u140)), ((q 25), .inl (cI, 4, .inl ss)), ((q 26), .inl (cI, 4, .inl sa)), ((q 27), .inl (cI, 240, .inl sh))] [0] rfl rfl (Eq.refl [h6]) rfl 0 rfl rfl rfl _ rfl (Nat.le_of_ble_eq_true rfl) ⟨Nat.zero_le _, Nat.zero_le _⟩ dX6_layers_195 ?_
                    generalize hu195 : (F_X6_refused (-9 : Int32)) = u195 at hf ⊢
                    exact z_iretW C hr hlk (by rw [hf]) (by rw [hf]) dX6_layers_198
              · rw [if_neg c145] at hf
                refine z_aload_n C dX6_layers_148 rfl 0 rfl ?_
                refine z_aload_n C dX6_layers_149 rfl 0 rfl ?_
                refine z_get (T := TX6) (v := .ref (q 21)) C i_X6_layers_6 0 rfl rfl 21 (by decide) m_X6_layers_7 rfl rfl dX6_layers_150 ?_
                refine z_iconst (v := (0 : Int32)) C dX6_layers_153 (by decide) ?_
                refine z_ald C 4 rfl (by subst hu140 hu70 hu34 hu19 hu1; exact (by unfold vp_in; decide)) dX6_layers_154 ?_
                refine z_cVW (As := [.int (u140 (0 : Int32).toNatClampNeg)]) C (c_X6_refused l D cI cO h6 q u70.2 pn sl dr yn ra rp rs rd ry pk yk rg tc (u140 (0 : Int32).toNatClampNeg)) (cwV 1 C.2.2.2.2.1 gX6_layers_X6_refused rfl rfl rfl hdV_X6_refused ⟨Nat.le_of_ble_eq_true rfl, Nat.le_of_ble_eq_true rfl⟩) [(h6, .inr (6, fM ((F_X6_refused (u140 (0 : Int32).toNatClampNeg)).2) pn sl dr yn ra rp rs rd ry pk yk rg tc q)), ((q 5), .inl (cI, 9, .inl ko)), ((q 6), .inl (cI, 9, .inl bo)), ((q 7), .inl (cI, 9, .inl yo)), ((q 21), .inl (cI, 512, .inl u140)), ((q 25), .inl (cI, 4, .inl ss)), ((q 26), .inl (cI, 4, .inl sa)), ((q 27), .inl (cI, 240, .inl sh))] [0] rfl rfl (Eq.refl [h6]) rfl 0 rfl rfl rfl _ rfl (Nat.le_of_ble_eq_true rfl) ⟨Nat.zero_le _, Nat.zero_le _⟩ dX6_layers_155 ?_
                generalize hu155 : (F_X6_refused (u140 (0 : Int32).toNatClampNeg)) = u155 at hf ⊢
                exact z_iretW C hr hlk (by rw [hf]) (by rw [hf]) dX6_layers_158
            have L86 : ∀ (d86 : Nat) (j : Nat) (x6_86 : Int32) (e6 : x6_86 = nI j) (hj : j ≤ np) (hd : np < j + d86), F_X6_layers fl pn sl dr ko bo yo wo ss sa sh k la i pl = F_X6_layers_l86 pn wo sh k i (F_X6_layers_k86 pn sl dr ko bo yo wo sh k i pl) d86 x6_86 → zG p l e ({ frames := 4, cells := 0, slots := 0, locals := 92 } : Room) s m args below meth c D (zA [(h6, .inr (6, fM fl pn sl dr yn ra rp rs rd ry pk yk rg tc q)), ((q 5), .inl (cI, 9, .inl ko)), ((q 6), .inl (cI, 9, .inl bo)), ((q 7), .inl (cI, 9, .inl yo)), ((q 21), .inl (cI, 512, .inl wo)), ((q 25), .inl (cI, 4, .inl ss)), ((q 26), .inl (cI, 4, .inl sa)), ((q 27), .inl (cI, 240, .inl sh))]) (zXw (zA [(h6, .inr (6, fM fl pn sl dr yn ra rp rs rd ry pk yk rg tc q)), ((q 5), .inl (cI, 9, .inl ko)), ((q 6), .inl (cI, 9, .inl bo)), ((q 7), .inl (cI, 9, .inl yo)), ((q 21), .inl (cI, 512, .inl wo)), ((q 25), .inl (cI, 4, .inl ss)), ((q 26), .inl (cI, 4, .inl sa)), ((q 27), .inl (cI, 240, .inl sh))]) s.heap) 7 0 0 (MQ below (zQw D [(h6, .inr (6, fM ((F_X6_layers fl pn sl dr ko bo yo wo ss sa sh k la i pl).2.1) pn sl dr yn ra rp rs rd ry pk yk rg tc q)), ((q 5), .inl (cI, 9, .inl ko)), ((q 6), .inl (cI, 9, .inl bo)), ((q 7), .inl (cI, 9, .inl yo)), ((q 21), .inl (cI, 512, .inl ((F_X6_layers fl pn sl dr ko bo yo wo ss sa sh k la i pl).2.2))), ((q 25), .inl (cI, 4, .inl ss)), ((q 26), .inl (cI, 4, .inl sa)), ((q 27), .inl (cI, 240, .inl sh))] (zA [(h6, .inr (6, fM fl pn sl dr yn ra rp rs rd ry pk yk rg tc q)), ((q 5), .inl (cI, 9, .inl ko)), ((q 6), .inl (cI, 9, .inl bo)), ((q 7), .inl (cI, 9, .inl yo)), ((q 21), .inl (cI, 512, .inl wo)), ((q 25), .inl (cI, 4, .inl ss)), ((q 26), .inl (cI, 4, .inl sa)), ((q 27), .inl (cI, 240, .inl sh))]) (some (.int ((F_X6_layers fl pn sl dr ko bo yo wo ss sa sh k la i pl).1)))) args s 0 0 (zA [(h6, .inr (6, fM fl pn sl dr yn ra rp rs rd ry pk yk rg tc q)), ((q 5), .inl (cI, 9, .inl ko)), ((q 6), .inl (cI, 9, .inl bo)), ((q 7), .inl (cI, 9, .inl yo)), ((q 21), .inl (cI, 512, .inl wo)), ((q 25), .inl (cI, 4, .inl ss)), ((q 26), .inl (cI, 4, .inl sa)), ((q 27), .inl (cI, 240, .inl sh))])) 86 [(0, .ref h6), (1, .int k), (2, .int la), (3, .int i), (4, .int pl), (5, .int u70.1), (6, .int x6_86)] [] [(h6, .inr (6, fM u70.2 pn sl dr yn ra rp rs rd ry pk yk rg tc q)), ((q 5), .inl (cI, 9, .inl ko)), ((q 6), .inl (cI, 9, .inl bo)), ((q 7), .inl (cI, 9, .inl yo)), ((q 21), .inl (cI, 512, .inl wo)), ((q 25), .inl (cI, 4, .inl ss)), ((q 26), .inl (cI, 4, .inl sa)), ((q 27), .inl (cI, 240, .inl sh))] := by
              intro d86
              induction d86 with
              | zero =>
                intro j x6_86 e6 hj hd hf
                exfalso; omega
              | succ d86 ih86 =>
                intro j x6_86 e6 hj hd hf
                rw [F_X6_layers_l86] at hf
                skip
                refine z_iload C dX6_layers_86 6 rfl ?_
                refine z_aload_n C dX6_layers_88 rfl 0 rfl ?_
                refine z_get (T := TX6) (v := .int pn) C i_X6_layers_6 0 rfl rfl 1 (by decide) m_X6_layers_4 rfl rfl dX6_layers_89 ?_
                refine z_icmp_ge (tgt := 133) C dX6_layers_92 (by decide) (fun c92 => ?_) (fun c92 => ?_)
                · rw [if_pos c92] at hf
                  exact X86 x6_86  hf
                · rw [if_neg c92] at hf
                  refine z_aload_n C dX6_layers_95 rfl 0 rfl ?_
                  refine z_get (T := TX6) (v := .ref (q 27)) C i_X6_layers_6 0 rfl rfl 27 (by decide) m_X6_layers_5 rfl rfl dX6_layers_96 ?_
                  refine z_bipush (v := (60 : Int32)) C dX6_layers_99 (by decide) ?_
                  refine z_iload_n C dX6_layers_101 rfl 1 rfl ?_
                  refine z_imul C dX6_layers_102 ?_
                  refine z_iload_n C dX6_layers_103 rfl 3 rfl ?_
                  refine z_iadd C dX6_layers_104 ?_
                  refine z_iload C dX6_layers_105 6 rfl ?_
                  refine z_iadd C dX6_layers_107 ?_
                  refine z_ald C 7 rfl (by subst hu70 hu34 hu19 hu1; exact (sheet_ix2 hk1 hk0 ha0 e6 (by have := z_jlt e6 (by omega) (z_tiN hpn (by omega)) c92; omega))) dX6_layers_108 ?_
                  refine z_i2l C dX6_layers_109 ?_
                  refine z_lconst (v := (0 : Int64)) C dX6_layers_110 (by decide) ?_
                  refine z_ldc2 C m_X6_layers_6 dX6_layers_111 ?_
                  refine z_cSR (As := [.long ((sh ((((60 : Int32) * k) + i) + x6_86).toNatClampNeg).toInt64), .long (0 : Int64), .long (6 : Int64)]) C (c_X6_in l D cI cO ((sh ((((60 : Int32) * k) + i) + x6_86).toNatClampNeg).toInt64) (0 : Int64) (6 : Int64)) (va_cwS 3 C.2.2.2.2.1 gX6_layers_X6_in rfl rfl rfl hdS_X6_in ⟨Nat.le_of_ble_eq_true rfl, Nat.le_of_ble_eq_true rfl⟩) [] rfl rfl rfl _ rfl (Nat.le_of_ble_eq_true rfl) ⟨Nat.zero_le _, Nat.zero_le _⟩ dX6_layers_114 ?_
                  generalize hu114 : (F_X6_in ((sh ((((60 : Int32) * k) + i) + x6_86).toNatClampNeg).toInt64) (0 : Int64) (6 : Int64)) = u114 at hf ⊢
                  refine z_if_ne (tgt := 127) C dX6_layers_117 (by decide) (fun c117 => ?_) (fun c117 => ?_)
                  · rw [if_neg c117] at hf
                    have b117 := c117
                    rw [← hu114] at c117
                    refine z_iinc (v := (x6_86 + (1 : Int32))) C [(0, .ref h6), (1, .int k), (2, .int la), (3, .int i), (4, .int pl), (5, .int u70.1), (6, .int (x6_86 + (1 : Int32)))] dX6_layers_127 6 rfl (by rfl) (by decide) [1, 2, 3, 4, 5, 6, 0] rfl ?_
                    refine z_goto (tgt := 86) C dX6_layers_130 (by decide) ?_
                    exact ih86 (j + 1) (x6_86 + (1 : Int32)) (by subst hu114 hu70 hu34 hu19 hu1; exact (by rw [e6]; exact nI_1 j)) (by subst hu114 hu70 hu34 hu19 hu1; exact (by have := z_jlt e6 (by omega) (z_tiN hpn (by omega)) c92; omega)) (by omega) hf
                  · rw [if_pos c117] at hf
                    have b117 := c117
                    rw [← hu114] at c117
                    refine z_aload_n C dX6_layers_120 rfl 0 rfl ?_
                    refine z_bipush (v := (-2 : Int32)) C dX6_layers_121 (by decide) ?_
                    refine z_cVW (As := [.int (-2 : Int32)]) C (c_X6_refused l D cI cO h6 q u70.2 pn sl dr yn ra rp rs rd ry pk yk rg tc (-2 : Int32)) (cwV 1 C.2.2.2.2.1 gX6_layers_X6_refused rfl rfl rfl hdV_X6_refused ⟨Nat.le_of_ble_eq_true rfl, Nat.le_of_ble_eq_true rfl⟩) [(h6, .inr (6, fM ((F_X6_refused (-2 : Int32)).2) pn sl dr yn ra rp rs rd ry pk yk rg tc q)), ((q 5), .inl (cI, 9, .inl ko)), ((q 6), .inl (cI, 9, .inl bo)), ((q 7), .inl (cI, 9, .inl yo)), ((q 21), .inl (cI, 512, .inl wo)), ((q 25), .inl (cI, 4, .inl ss)), ((q 26), .inl (cI, 4, .inl sa)), ((q 27), .inl (cI, 240, .inl sh))] [0] rfl rfl (Eq.refl [h6]) rfl 0 rfl rfl rfl _ rfl (Nat.le_of_ble_eq_true rfl) ⟨Nat.zero_le _, Nat.zero_le _⟩ dX6_layers_123 ?_
                    generalize hu123 : (F_X6_refused (-2 : Int32)) = u123 at hf ⊢
                    exact z_iretW C hr hlk (by rw [hf]) (by rw [hf]) dX6_layers_126
            exact L86 10 0 (0 : Int32) (by subst hu70 hu34 hu19 hu1; exact nI_0.symm) (by subst hu70 hu34 hu19 hu1; exact (Nat.zero_le _)) (by omega) hf
          · rw [if_neg c77] at hf
            have b77 := c77
            rw [← hu70] at c77
            refine z_iload C dX6_layers_80 5 rfl ?_
            exact z_iretW C hr hlk (by rw [hf]) (by rw [hf]) dX6_layers_82
        · rw [if_pos c51] at hf
          refine z_aload_n C dX6_layers_54 rfl 0 rfl ?_
          refine z_bipush (v := (-3 : Int32)) C dX6_layers_55 (by decide) ?_
          refine z_cVW (As := [.int (-3 : Int32)]) C (c_X6_refused l D cI cO h6 q fl pn sl dr yn ra rp rs rd ry pk yk rg tc (-3 : Int32)) (cwV 1 C.2.2.2.2.1 gX6_layers_X6_refused rfl rfl rfl hdV_X6_refused ⟨Nat.le_of_ble_eq_true rfl, Nat.le_of_ble_eq_true rfl⟩) [(h6, .inr (6, fM ((F_X6_refused (-3 : Int32)).2) pn sl dr yn ra rp rs rd ry pk yk rg tc q)), ((q 5), .inl (cI, 9, .inl ko)), ((q 6), .inl (cI, 9, .inl bo)), ((q 7), .inl (cI, 9, .inl yo)), ((q 21), .inl (cI, 512, .inl wo)), ((q 25), .inl (cI, 4, .inl ss)), ((q 26), .inl (cI, 4, .inl sa)), ((q 27), .inl (cI, 240, .inl sh))] [0] rfl rfl (Eq.refl [h6]) rfl 0 rfl rfl rfl _ rfl (Nat.le_of_ble_eq_true rfl) ⟨Nat.zero_le _, Nat.zero_le _⟩ dX6_layers_57 ?_
          generalize hu57 : (F_X6_refused (-3 : Int32)) = u57 at hf ⊢
          exact z_iretW C hr hlk (by rw [hf]) (by rw [hf]) dX6_layers_60
      · rw [if_pos c37] at hf
        have b37 := c37
        rw [← hu34] at c37
        refine z_aload_n C dX6_layers_40 rfl 0 rfl ?_
        refine z_bipush (v := (-2 : Int32)) C dX6_layers_41 (by decide) ?_
        refine z_cVW (As := [.int (-2 : Int32)]) C (c_X6_refused l D cI cO h6 q fl pn sl dr yn ra rp rs rd ry pk yk rg tc (-2 : Int32)) (cwV 1 C.2.2.2.2.1 gX6_layers_X6_refused rfl rfl rfl hdV_X6_refused ⟨Nat.le_of_ble_eq_true rfl, Nat.le_of_ble_eq_true rfl⟩) [(h6, .inr (6, fM ((F_X6_refused (-2 : Int32)).2) pn sl dr yn ra rp rs rd ry pk yk rg tc q)), ((q 5), .inl (cI, 9, .inl ko)), ((q 6), .inl (cI, 9, .inl bo)), ((q 7), .inl (cI, 9, .inl yo)), ((q 21), .inl (cI, 512, .inl wo)), ((q 25), .inl (cI, 4, .inl ss)), ((q 26), .inl (cI, 4, .inl sa)), ((q 27), .inl (cI, 240, .inl sh))] [0] rfl rfl (Eq.refl [h6]) rfl 0 rfl rfl rfl _ rfl (Nat.le_of_ble_eq_true rfl) ⟨Nat.zero_le _, Nat.zero_le _⟩ dX6_layers_43 ?_
        generalize hu43 : (F_X6_refused (-2 : Int32)) = u43 at hf ⊢
        exact z_iretW C hr hlk (by rw [hf]) (by rw [hf]) dX6_layers_46
  · rw [if_neg c4] at hf
    have b4 := c4
    rw [← hu1] at c4
    refine z_aload_n C dX6_layers_7 rfl 0 rfl ?_
    refine z_iconst (v := (-1 : Int32)) C dX6_layers_8 (by decide) ?_
    refine z_cVW (As := [.int (-1 : Int32)]) C (c_X6_refused l D cI cO h6 q fl pn sl dr yn ra rp rs rd ry pk yk rg tc (-1 : Int32)) (cwV 1 C.2.2.2.2.1 gX6_layers_X6_refused rfl rfl rfl hdV_X6_refused ⟨Nat.le_of_ble_eq_true rfl, Nat.le_of_ble_eq_true rfl⟩) [(h6, .inr (6, fM ((F_X6_refused (-1 : Int32)).2) pn sl dr yn ra rp rs rd ry pk yk rg tc q)), ((q 5), .inl (cI, 9, .inl ko)), ((q 6), .inl (cI, 9, .inl bo)), ((q 7), .inl (cI, 9, .inl yo)), ((q 21), .inl (cI, 512, .inl wo)), ((q 25), .inl (cI, 4, .inl ss)), ((q 26), .inl (cI, 4, .inl sa)), ((q 27), .inl (cI, 240, .inl sh))] [0] rfl rfl (Eq.refl [h6]) rfl 0 rfl rfl rfl _ rfl (Nat.le_of_ble_eq_true rfl) ⟨Nat.zero_le _, Nat.zero_le _⟩ dX6_layers_9 ?_
    generalize hu9 : (F_X6_refused (-1 : Int32)) = u9 at hf ⊢
    exact z_iretW C hr hlk (by rw [hf]) (by rw [hf]) dX6_layers_12
