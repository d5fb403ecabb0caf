section Q16
variable {ss sa sh wo : Nat → Int32} {ln lg sl dr fl ti tn tf pn nw pl : Int32} {cl : Nat → Int32} {jj n a0 f0 np : Nat} {kd bd yr : Nat → Int32}
def mS (sl : Int32) (kd bd : Nat → Int32) (k : Nat) : Nat := ((sl * F_X6_turnBy (kd k) (bd k)).toInt % 6).toNat
def mW (dr : Int32) (yr v : Nat → Int32) (p : Nat) : Nat := if v p = 6 then 6 else ((v p - dr * yr p).toInt % 6).toNat
theorem fm_e (z : Int32) : F_J9_floorMod_7cf53 z 6 = nI (z.toInt % 6).toNat := by
  have h := fmod_ti z
  have : (nI (z.toInt % 6).toNat).toInt = z.toInt % 6 := by rw [nI_toInt (by omega)]; omega
  exact Int32.toInt_inj.mp (h.trans this.symm)
theorem mS_lt (k : Nat) : mS sl kd bd k < 6 := by unfold mS; omega
theorem mW_le {v : Nat → Int32} (p : Nat) : mW dr yr v p ≤ 6 := by
  unfold mW
  by_cases c : v p = 6
  · rw [if_pos c]; exact Nat.le_refl _
  · rw [if_neg c]; omega
theorem turn_n {k v : Nat} (hk : k ≤ 2) (hv : v ≤ 9) : ∃ t : Nat, t ≤ 20 ∧ F_X6_turnBy (nI k) (nI v) = nI t := by
  rw [F_X6_turnBy]
  rcases (by omega : k = 0 ∨ k = 1 ∨ k = 2) with rfl | rfl | rfl
  · rw [if_pos (by decide)]; exact ⟨v, by omega, rfl⟩
  · rw [if_neg (by decide), if_pos (by decide)]; exact ⟨v + 1, by omega, nI_1 v⟩
  · rw [if_neg (by decide), if_neg (by decide), show (2 : Int32) = nI 2 from rfl, pk_mul, nI_add]; exact ⟨2 * v + 2, by omega, rfl⟩
theorem may_e {Y : Nat} (hY : Y ≤ 100000) (hw : wellOK pn sl dr nw kd bd yr Y) (hpn : pn = nI np) (hnp : np ≤ 9) {v : Nat → Int32} (hv : ∀ p, p < np → ∃ v0 : Nat, v0 ≤ 6 ∧ v p = nI v0) {k p : Nat} (hk : k < np) (hp : p < np) : ¬ F_X6_mayLie sl dr kd bd yr (nI k) (nI p) (v p) = 0 ↔ mW dr yr v p = 6 ∨ mS sl kd bd k = mW dr yr v p := by
  obtain ⟨np', a, b, y, h1, h2, h3, h4, h5, h6, h7, h8, h9⟩ := hw
  have e : np' = np := nI_inj (by omega) (by omega) (h2.symm.trans hpn)
  subst e
  obtain ⟨⟨kk, k1, k2⟩, ⟨vv, v1, v2⟩, -⟩ := h9 k hk
  obtain ⟨-, -, t, t1, t2⟩ := h9 p hp
  obtain ⟨v0, w1, w2⟩ := hv p hp
  obtain ⟨tt, q1, q2⟩ := turn_n k1 v1
  rw [F_X6_mayLie]
  unfold mW mS
  by_cases c : v p = 6
  · rw [if_pos c, if_pos c]; exact ⟨fun _ => Or.inl rfl, fun _ => by decide⟩
  rw [if_neg c, if_neg c]
  have hv6 : v0 < 6 := by
    rcases (by omega : v0 < 6 ∨ v0 = 6) with z | z
    · exact z
    · exact absurd (by rw [w2, z]; rfl) c
  have eA : a * tt ≤ 100 := by
    have := Nat.mul_le_mul h3 q1; omega
  have eB : b * t ≤ 500000 := by
    have := Nat.mul_le_mul h5 (Nat.le_trans t1 (Nat.le_trans h7 hY)); omega
  rw [F_X6_turnOf, show (nI k).toNatClampNeg = k from nI_clamp (by omega), show (nI p).toNatClampNeg = p from nI_clamp (by omega), k2, v2, q2, h4, h6, t2, w2, F_X6_wishBy, pk_mul, pk_mul, nI_add, show (6 : Int32) = nI 6 from rfl, pk_rem (by omega) (by decide) (by decide), nI_toInt (by omega), pk_sub_toInt (by omega) (by omega)]
  generalize a * tt = A at *
  generalize b * t = B at *
  by_cases d : nI ((A + B) % 6) = nI v0
  · have := nI_inj (by omega) (by omega) d
    rw [if_pos d]
    exact ⟨fun _ => Or.inr (by omega), fun _ => by decide⟩
  · rw [if_neg d]
    refine ⟨fun z => absurd rfl z, fun z => ?_⟩
    exfalso
    apply d
    congr 1
    omega
theorem ask_z {K : Int32 → (Nat → Int32) → Int32 × Int32 × (Nat → Int32) × (Nat → Int32) × (Nat → Int32)} : ∀ (r x d : Nat) (sp : Nat → Int32), x + r = 6 → r < d → (∀ i, i < x → sp i = 0) → ∃ (sp' : Nat → Int32) (y : Int32), F_X1_ask_l16 K d (nI x) sp = K y sp' ∧ ∀ i, i < 6 → sp' i = 0 := by
  intro r
  induction r with
  | zero =>
    intro x d sp hx hd h
    obtain ⟨d1, rfl⟩ : ∃ d1, d = d1 + 1 := ⟨d - 1, by omega⟩
    have e : x = 6 := by omega
    subst e
    rw [F_X1_ask_l16, if_pos (by decide)]
    exact ⟨sp, _, rfl, h⟩
  | succ r ih =>
    intro x d sp hx hd h
    obtain ⟨d1, rfl⟩ : ∃ d1, d = d1 + 1 := ⟨d - 1, by omega⟩
    have c : ¬ (6 : Int32) ≤ nI x := by rw [zl_ge (z := 6) (by decide), nI_toInt (by omega)]; omega
    rw [F_X1_ask_l16, if_neg c, nI_1, show (nI x).toNatClampNeg = x from nI_clamp (by omega)]
    refine ih (x + 1) d1 _ (by omega) (by omega) (fun i hi => ?_)
    by_cases q : i = x
    · rw [q, pk_us]
    · rw [pk_un q]; exact h i (by omega)
theorem ask_l (hpn : pn = nI np) (hnp : np ≤ 9) {v : Nat → Int32} (hat : ∀ p, p < np → F_X3_at lg cl (ti + nI p) = v p) {K : Int32 → (Nat → Int32) → (Nat → Int32) → (Nat → Int32) → Int32 × Int32 × (Nat → Int32) × (Nat → Int32) × (Nat → Int32)} : ∀ (r m d : Nat) (cs wa sp : Nat → Int32), m + r = np → r < d → (∀ k, k < m → cs k = nI (mS sl kd bd k)) → (∀ p, p < m → wa p = nI (mW dr yr v p)) → (∀ x, x < 6 → sp x = nI (cnt (mS sl kd bd) 0 m x)) →
    ∃ (cs' wa' sp' : Nat → Int32) (y : Int32), F_X1_ask_l40 pn sl dr kd bd yr lg cl ti K d (nI m) cs wa sp = K y cs' wa' sp' ∧ (∀ k, k < np → cs' k = nI (mS sl kd bd k)) ∧ (∀ p, p < np → wa' p = nI (mW dr yr v p)) ∧ (∀ x, x < 6 → sp' x = nI (cnt (mS sl kd bd) 0 np x)) := by
  have el : (if (9 : Int32) < pn then 9 else pn) = pn := by
    have : ¬ (9 : Int32) < pn := by rw [zl_gt (z := 9) (by decide), z_tiN hpn (by omega)]; omega
    rw [if_neg this]
  intro r
  induction r with
  | zero =>
    intro m d cs wa sp hm hd h1 h2 h3
    obtain ⟨d1, rfl⟩ : ∃ d1, d = d1 + 1 := ⟨d - 1, by omega⟩
    have e : m = np := by omega
    subst e
    have c : pn ≤ nI m := by rw [hpn]; exact Int32.le_refl _
    rw [F_X1_ask_l40, el, if_pos c]
    exact ⟨cs, wa, sp, _, rfl, h1, h2, h3⟩
  | succ r ih =>
    intro m d cs wa sp hm hd h1 h2 h3
    obtain ⟨d1, rfl⟩ : ∃ d1, d = d1 + 1 := ⟨d - 1, by omega⟩
    have c : ¬ pn ≤ nI m := fun z => by rw [hpn] at z; have := (nI_leI (by omega) (by omega)).mp z; omega
    have em : (nI m).toNatClampNeg = m := nI_clamp (by omega)
    have eS : F_J9_floorMod_7cf53 (sl * F_X4_turnAt pn kd bd (nI m)) 6 = nI (mS sl kd bd m) := by rw [turnAt_e hpn hnp (by omega), fm_e]; rfl
    have hSl := mS_lt (sl := sl) (kd := kd) (bd := bd) m
    have eS2 : (nI (mS sl kd bd m)).toNatClampNeg = mS sl kd bd m := nI_clamp (by omega)
    have s1 : ∀ k, k < m + 1 → upd cs m (nI (mS sl kd bd m)) k = nI (mS sl kd bd k) := fun k hk => by
      by_cases q : k = m
      · rw [q, pk_us]
      · rw [pk_un q]; exact h1 k (by omega)
    have s3 : ∀ x, x < 6 → upd sp (mS sl kd bd m) (sp (mS sl kd bd m) + 1) x = nI (cnt (mS sl kd bd) 0 (m + 1) x) := fun x hx => by
      have ec : cnt (mS sl kd bd) 0 (m + 1) x = cnt (mS sl kd bd) 0 m x + (if 0 / 2 ^ m % 2 = 0 ∧ mS sl kd bd m = x then 1 else 0) := rfl
      have z0 : 0 / 2 ^ m % 2 = 0 := by rw [Nat.zero_div]
      rw [ec]
      by_cases q : x = mS sl kd bd m
      · rw [q, pk_us, h3 _ hSl, nI_1, if_pos ⟨z0, rfl⟩]
      · rw [pk_un q, if_neg (fun w => q w.2.symm), Nat.add_zero]; exact h3 x hx
    rw [F_X1_ask_l40, el, if_neg c, hat m (by omega), nI_1, em, eS, pk_us, eS2, yearAt_e hpn hnp (by omega)]
    by_cases c6 : v m = 6
    · rw [if_pos c6]
      refine ih (m + 1) d1 _ _ _ (by omega) (by omega) s1 (fun p hp => ?_) s3
      by_cases q : p = m
      · rw [q, pk_us, mW, if_pos c6]; rfl
      · rw [pk_un q]; exact h2 p (by omega)
    · rw [if_neg c6]
      refine ih (m + 1) d1 _ _ _ (by omega) (by omega) s1 (fun p hp => ?_) s3
      by_cases q : p = m
      · rw [q, pk_us, fm_e, mW, if_neg c6]
      · rw [pk_un q]; exact h2 p (by omega)
theorem lchk_l {lp lw k : Int32} {cs wa sp : Nat → Int32} (hpn : pn = nI np) (hnp : np ≤ 9) (hti : ti = nI a0) (htf : (60 : Int32) * k + ti = nI f0) (hf : f0 + np ≤ 240) (hat : ∀ p, p < np → F_X3_at lg cl (ti + nI p) = sh (f0 + p))
    {K1 : Int32 → Int32 × Int32 × Int32 × Int32 × (Nat → Int32) × (Nat → Int32) × (Nat → Int32)} {K2 : Int32 → Int32 × Int32 × (Nat → Int32)} :
    ∀ (r x d1 d2 : Nat), x + r = np → r < d1 → r < d2 →
      (F_X5_layers_l86 pn lp lw cs wa sp lg cl ti K1 d1 (nI x) = (-2, 0, lp, lw, cs, wa, sp) ∧ F_X6_layers_l86 pn wo sh k ti K2 d2 (nI x) = (-2, 0, wo)) ∨
      ((∀ y, x ≤ y → y < np → ∃ v0 : Nat, v0 ≤ 6 ∧ sh (f0 + y) = nI v0) ∧ ∃ x1 x2, F_X5_layers_l86 pn lp lw cs wa sp lg cl ti K1 d1 (nI x) = K1 x1 ∧ F_X6_layers_l86 pn wo sh k ti K2 d2 (nI x) = K2 x2) := by
  intro r
  induction r with
  | zero =>
    intro x d1 d2 hx hd1 hd2
    obtain ⟨d1', rfl⟩ : ∃ d', d1 = d' + 1 := ⟨d1 - 1, by omega⟩
    obtain ⟨d2', rfl⟩ : ∃ d', d2 = d' + 1 := ⟨d2 - 1, by omega⟩
    have c : pn ≤ nI x := by rw [hpn, show np = x by omega]; exact Int32.le_refl _
    exact Or.inr ⟨fun y h1 h2 => by omega, nI x, nI x, by rw [F_X5_layers_l86, if_pos c], by rw [F_X6_layers_l86, if_pos c]⟩
  | succ r ih =>
    intro x d1 d2 hx hd1 hd2
    obtain ⟨d1', rfl⟩ : ∃ d', d1 = d' + 1 := ⟨d1 - 1, by omega⟩
    obtain ⟨d2', rfl⟩ : ∃ d', d2 = d' + 1 := ⟨d2 - 1, by omega⟩
    have c : ¬ pn ≤ nI x := fun z => by rw [hpn] at z; have := (nI_leI (by omega) (by omega)).mp z; omega
    have e3 : ((60 : Int32) * k + ti + nI x).toNatClampNeg = f0 + x := by rw [htf, nI_add]; exact nI_clamp (by omega)
    have h6 := in_l0 (sh (f0 + x)) 0 6 0 6 (by decide) (by decide)
    have h5 := in_l0 (sh (f0 + x)) 0 5 0 5 (by decide) (by decide)
    have i6 := zl_eq (x := sh (f0 + x)) (k := 6) (z := 6) (by decide)
    have good : ¬ F_X6_in (sh (f0 + x)).toInt64 (0 : Int64) (6 : Int64) = 0 → ∃ v0 : Nat, v0 ≤ 6 ∧ sh (f0 + x) = nI v0 := fun z => by
      have z2 := mt h6.mpr z
      obtain ⟨v, v1, v2⟩ := nI_of (x := sh (f0 + x)) (fun q => by have := (zl_lt (z := 0) (by decide)).mp q; omega)
      rw [v2, nI_toInt v1] at z2
      exact ⟨v, by omega, v2⟩
    have rest := ih (x + 1) d1' d2' (by omega) (by omega) (by omega)
    have fin : (¬ F_X6_in (sh (f0 + x)).toInt64 (0 : Int64) (6 : Int64) = 0) → (F_X5_layers_l86 pn lp lw cs wa sp lg cl ti K1 d1' (nI (x + 1)) = (-2, 0, lp, lw, cs, wa, sp) ∧ F_X6_layers_l86 pn wo sh k ti K2 d2' (nI (x + 1)) = (-2, 0, wo)) ∨
      ((∀ y, x ≤ y → y < np → ∃ v0 : Nat, v0 ≤ 6 ∧ sh (f0 + y) = nI v0) ∧ ∃ x1 x2, F_X5_layers_l86 pn lp lw cs wa sp lg cl ti K1 d1' (nI (x + 1)) = K1 x1 ∧ F_X6_layers_l86 pn wo sh k ti K2 d2' (nI (x + 1)) = K2 x2) := fun z => by
      rcases rest with h | ⟨g1, g2⟩
      · exact Or.inl h
      · refine Or.inr ⟨fun y h1 h2 => ?_, g2⟩
        rcases (by omega : y = x ∨ x + 1 ≤ y) with q | q
        · rw [q]; exact good z
        · exact g1 y q h2
    rw [F_X5_layers_l86, F_X6_layers_l86, if_neg c, if_neg c, hat x (by omega), e3, nI_1]
    by_cases c1 : F_X5_isWish (sh (f0 + x)) = 0
    · have q1 := h5.mp ((isWish_in _).mp c1)
      rw [if_pos c1]
      by_cases c2 : sh (f0 + x) = 6
      · have n6 : ¬ F_X6_in (sh (f0 + x)).toInt64 (0 : Int64) (6 : Int64) = 0 := fun z => by have := h6.mp z; have := i6.mp c2; omega
        rw [if_pos c2, if_neg n6]; exact fin n6
      · have y6 : F_X6_in (sh (f0 + x)).toInt64 (0 : Int64) (6 : Int64) = 0 := h6.mpr (by have := mt i6.mpr c2; omega)
        rw [if_neg c2, if_pos y6]; exact Or.inl ⟨rfl, rfl⟩
    · have q1 := mt h5.mpr (mt (isWish_in _).mpr c1)
      have n6 : ¬ F_X6_in (sh (f0 + x)).toInt64 (0 : Int64) (6 : Int64) = 0 := fun z => by have := h6.mp z; omega
      rw [if_neg c1, if_neg n6]; exact fin n6
theorem st_layers {k la lp lw : Int32} {cs wa sp : Nat → Int32} {Y : Nat} (hY : Y ≤ 100000) (hk : k = nI jj) (hj : jj < 4) (hw : wellOK pn sl dr nw kd bd yr Y) (hpn : pn = nI np) (hnp : np ≤ 9) (h : shR (ss jj) (sa jj) (fun i => sh (60 * jj + i)) ln lg cl) :
    (F_X5_layers pn sl dr kd bd yr lp lw cs wa sp ln lg cl k la ti pl).1 = (F_X6_layers fl pn sl dr kd bd yr wo ss sa sh k la ti pl).1 ∧ (F_X5_layers pn sl dr kd bd yr lp lw cs wa sp ln lg cl k la ti pl).2.1 = (F_X6_layers fl pn sl dr kd bd yr wo ss sa sh k la ti pl).2.1 := by
  obtain ⟨n1, n2, ek⟩ := nS hk hj
  rw [F_X5_layers, F_X6_layers, if_neg n1, if_pos n2]
  by_cases c1 : F_X5_isLane la = 0
  · rw [if_pos c1, if_pos ((isLane_in la).mp c1)]; exact ⟨rfl, rfl⟩
  rw [if_neg c1, if_neg (mt (isLane_in la).mpr c1)]
  have hn := in_l0 pl (-1) 8 (-1) 8 (by decide) (by decide)
  have g0 := zl_lt (x := pl) (k := -1) (z := -1) (by decide)
  have g9 := zl_lt (x := pl) (k := 9) (z := 9) (by decide)
  by_cases c2 : pl < -1
  · rw [if_pos c2, if_pos (hn.mpr (Or.inl (g0.mp c2)))]; exact ⟨rfl, rfl⟩
  rw [if_neg c2]
  by_cases c3 : pl < 9
  case neg =>
    have y8 : F_X6_in pl.toInt64 (-1 : Int64) (8 : Int64) = 0 := hn.mpr (Or.inr (by have := mt g9.mpr c3; omega))
    rw [if_neg c3, if_pos y8]; exact ⟨rfl, rfl⟩
  have nn : ¬ F_X6_in pl.toInt64 (-1 : Int64) (8 : Int64) = 0 := fun z => by
    rcases hn.mp z with q | q
    · exact c2 (g0.mpr q)
    · have := g9.mp c3; omega
  rw [if_pos c3, if_neg nn]
  by_cases c0 : pn = 0
  · rw [if_pos c0, if_pos ((hasWell_0 hpn hnp).mpr c0)]; exact ⟨rfl, rfl⟩
  rw [if_neg c0, if_neg (mt (hasWell_0 hpn hnp).mp c0)]
  have np1 := z_pos hpn c0
  rcases cells_c (fl := fl) (la := la) (i := ti) (m := pn) hk hj h (by rw [hpn]; exact nI_pos (by omega)) with ⟨h1, h2, n, a0, M, h3, h4, h5, h6, h7, h8⟩ | ⟨h1, h2, h3⟩
  case inr => rw [if_neg h1, if_neg h3, h2]; exact ⟨rfl, rfl⟩
  have eM : M = np := nI_inj (by rw [h6] at hpn; omega) (by omega) (h6.symm.trans hpn)
  subst eM
  have hz : (0 : Int32) ≤ 0 := Int32.le_refl _
  rw [if_pos h1, h2]
  dsimp only
  rw [if_pos hz]
  have htf : (60 : Int32) * k + ti = nI (60 * jj + a0) := sheet_e hk h5
  have hat : ∀ p, p < M → F_X3_at lg cl (ti + nI p) = sh (60 * jj + a0 + p) := fun p hp => by
    rw [h4, h5, nI_add, at_e h3 (by omega), h8 (a0 + p) (by omega), Nat.add_assoc]
  rcases lchk_l (wo := wo) (lp := lp) (lw := lw) (cs := cs) (wa := wa) (sp := sp) (K1 := F_X5_layers_k86 pn sl dr kd bd yr cs wa sp lg cl ti pl) (K2 := F_X6_layers_k86 pn sl dr kd bd yr wo sh k ti pl) hpn hnp h5 htf (by omega) hat M 0 10 10 (by omega) (by omega) (by omega) with ⟨q1, q2⟩ | ⟨q0, x1, x2, q1, q2⟩
  · have q1' : F_X5_layers_l86 pn lp lw cs wa sp lg cl ti (F_X5_layers_k86 pn sl dr kd bd yr cs wa sp lg cl ti pl) 10 0 = _ := q1
    have q2' : F_X6_layers_l86 pn wo sh k ti (F_X6_layers_k86 pn sl dr kd bd yr wo sh k ti pl) 10 0 = _ := q2
    rw [q1', q2']; exact ⟨rfl, rfl⟩
  have q1' : F_X5_layers_l86 pn lp lw cs wa sp lg cl ti (F_X5_layers_k86 pn sl dr kd bd yr cs wa sp lg cl ti pl) 10 0 = _ := q1
  have q2' : F_X6_layers_l86 pn wo sh k ti (F_X6_layers_k86 pn sl dr kd bd yr wo sh k ti pl) 10 0 = _ := q2
  rw [q1', q2']
  have hv : ∀ p, p < M → ∃ v0 : Nat, v0 ≤ 6 ∧ (fun p => sh (60 * jj + a0 + p)) p = nI v0 := fun p hp => q0 p (Nat.zero_le _) hp
  have hfn : 60 * jj + a0 + M ≤ 240 := by omega
  -- the model
  have hS : ∀ k, k < M → mS sl kd bd k < 6 := fun k _ => mS_lt k
  have hW : ∀ p, p < M → mW dr yr (fun p => sh (60 * jj + a0 + p)) p ≤ 6 := fun p _ => mW_le p
  have hm : ∀ k p, k < M → p < M → (¬ F_X6_mayLie sl dr kd bd yr (nI k) (nI p) (sh (60 * jj + a0 + p)) = 0 ↔ mW dr yr (fun p => sh (60 * jj + a0 + p)) p = 6 ∨ mS sl kd bd k = mW dr yr (fun p => sh (60 * jj + a0 + p)) p) := fun k p h1 h2 => may_e hY hw hpn hnp hv h1 h2
  have hm2 : ∀ k p, k < M → p < M → (pmay sl dr kd bd yr sh (60 * jj + a0) k p = true ↔ mW dr yr (fun p => sh (60 * jj + a0 + p)) p = 6 ∨ mS sl kd bd k = mW dr yr (fun p => sh (60 * jj + a0 + p)) p) := fun k p h1 h2 => by
    rw [← hm k p h1 h2]; unfold pmay; exact decide_eq_true_iff
  have h512 := (pow_le M (by omega)).2
  have hwv : ∀ t, t < 2 ^ M → F_X6_countWays pn sl dr kd bd yr wo sh ((60 : Int32) * k + ti) t = nI (EE (mW dr yr (fun p => sh (60 * jj + a0 + p))) (cnt (mS sl kd bd) t M) (popc t) (M - popc t)) := fun t ht => by
    have hpl := popc_le M (by omega) t ht
    rw [cw_val hpn hnp htf hfn t ht, wv_EE hnp hS hW hm2 (M - popc t) t ht (by omega)]
  have hwo : ∀ t, t < 2 ^ M → (0 < F_X6_countWays pn sl dr kd bd yr wo sh ((60 : Int32) * k + ti) t ↔ 0 < EE (mW dr yr (fun p => sh (60 * jj + a0 + p))) (cnt (mS sl kd bd) t M) (popc t) (M - popc t)) := fun t ht => by
    have hpl := popc_le M (by omega) t ht
    rw [cw_pos hpn hnp htf hfn t ht, wv_EE hnp hS hW hm2 (M - popc t) t ht (by omega)]
  have hex := cw_W (sl := sl) (dr := dr) (ko := kd) (bo := bd) (yo := yr) (wo := wo) (sh := sh) hpn hnp htf hfn
  have p2 := Nat.two_pow_pos M
  have w0 := hwv 0 p2
  have pc0 : popc 0 = 0 := rfl
  rw [pc0, Nat.sub_zero] at w0
  -- ask
  obtain ⟨sp1, y1, z1, z2⟩ := ask_z (K := F_X1_ask_k16 cs wa pn sl dr kd bd yr lg cl ti) 6 0 7 sp (by omega) (by omega) (fun i hi => by omega)
  obtain ⟨cs2, wa2, sp2, y2, u1, u2, u3, u4⟩ := ask_l (sl := sl) (dr := dr) (kd := kd) (bd := bd) (yr := yr) (K := F_X1_ask_k40 pn) hpn hnp (v := fun p => sh (60 * jj + a0 + p)) hat M 0 10 cs wa sp1 (by omega) (by omega) (fun k hk => by omega) (fun p hp => by omega) (fun x hx => by rw [z2 x hx]; rfl)
  have el : (if (9 : Int32) < pn then 9 else pn) = pn := by
    have : ¬ (9 : Int32) < pn := by rw [zl_gt (z := 9) (by decide), z_tiN hpn (by omega)]; omega
    rw [if_neg this]
  have hc9 : ∀ x, x < 6 → cnt (mS sl kd bd) 0 M x ≤ 9 := fun x hx => by
    have hsum := cnt_sum (S := mS sl kd bd) hnp p2 hS
    unfold su at hsum
    rcases (by omega : x = 0 ∨ x = 1 ∨ x = 2 ∨ x = 3 ∨ x = 4 ∨ x = 5) with rfl | rfl | rfl | rfl | rfl | rfl <;> omega
  obtain ⟨sp3, v1, v2⟩ := cwc_l (lp := pn) (wa := wa2) (W := mW dr yr (fun p => sh (60 * jj + a0 + p))) hpn hnp u3 hW M 0 10 0 1 (cnt (mS sl kd bd) 0 M) sp2 (by omega) (by omega) hc9 u4
  have v1' : F_X1_countWays pn wa2 sp2 = (nI (EE (mW dr yr (fun p => sh (60 * jj + a0 + p))) (cnt (mS sl kd bd) 0 M) 0 M), sp3) := by
    rw [F_X1_countWays]
    refine v1.trans ?_
    rw [asc_0, Nat.one_mul]; rfl
  have ea : F_X1_ask cs wa sp pn sl dr kd bd yr lg cl ti = (pn, nI (EE (mW dr yr (fun p => sh (60 * jj + a0 + p))) (cnt (mS sl kd bd) 0 M) 0 M), cs2, wa2, sp3) := by
    rw [F_X1_ask]
    refine z1.trans ?_
    rw [F_X1_ask_k16]
    refine u1.trans ?_
    rw [F_X1_ask_k40, el, v1']
  rw [F_X5_layers_k86, F_X6_layers_k86, ea]
  dsimp only
  have t0 : (0 : Int32).toNatClampNeg = 0 := rfl
  rw [t0, w0]
  by_cases c5 : 0 ≤ pl
  case neg => rw [if_neg c5, if_neg c5]; exact ⟨rfl, rfl⟩
  rw [if_pos c5, if_pos c5, F_X1_firstAt]
  by_cases c6 : nI (EE (mW dr yr (fun p => sh (60 * jj + a0 + p))) (cnt (mS sl kd bd) 0 M) 0 M) = 0
  · rw [if_pos c6, if_pos c6]; exact ⟨rfl, rfl⟩
  rw [if_neg c6, if_neg c6]
  have hpos : 0 < EE (mW dr yr (fun p => sh (60 * jj + a0 + p))) (cnt (mS sl kd bd) 0 M) 0 M := by
    rcases Nat.eq_zero_or_pos (EE (mW dr yr (fun p => sh (60 * jj + a0 + p))) (cnt (mS sl kd bd) 0 M) 0 M) with z | z
    · exact absurd (by rw [z]; rfl) c6
    · exact z
  obtain ⟨p0, hp0, hpl⟩ := nI_of (x := pl) (Int32.not_lt.mpr c5)
  have hp9 : p0 < 9 := by have := g9.mp c3; rw [hpl, nI_toInt hp0] at this; omega
  obtain ⟨i1, i2⟩ := greedy_l (sl := sl) (dr := dr) (ko := kd) (bo := bd) (yo := yr) (sh := sh) (tf := (60 : Int32) * k + ti) (lp := pn) (pn := pn) (wo := F_X6_countWays pn sl dr kd bd yr wo sh ((60 : Int32) * k + ti)) hpn hpn hnp htf hfn u2 u3 hS hW hm hwo hex hpl (by omega) M 0 0 10 11 (-9) sp3 (by omega) (Nat.zero_le _) (by omega) (by omega) p2 pc0 hpos (v2 (EE_pos.mp hpos))
  have g := nI_ltI (a := p0) (b := M) (by omega) (by omega)
  by_cases c7 : pl < pn
  · have hlt : p0 < M := by rw [hpl, hpn] at c7; exact g.mp c7
    rw [if_pos c7]
    exact ⟨i1 hlt, rfl⟩
  · have hge : M ≤ p0 := by
      rcases Nat.lt_or_ge p0 M with z | z
      · exact absurd (by rw [hpl, hpn]; exact g.mpr z) c7
      · exact z
    rw [if_neg c7]
    exact ⟨i2 hge, rfl⟩
end Q16
