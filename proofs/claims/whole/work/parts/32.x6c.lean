-- X6_noSheet
theorem m_X6_noSheet_1 : Cond.constantLong RX6 220 (3) ∈ wsX6_noSheet := List.mem_of_getElem? (i := 1) rfl
def F_X6_noSheet (k : Int32) : Int32 :=
  (if (F_X6_in k.toInt64 (0 : Int64) (3 : Int64)) = 0 then (1 : Int32) else (0 : Int32))
set_option maxHeartbeats 4000000 in
set_option maxRecDepth 100000 in
theorem c_X6_noSheet (l : Launch) (D : va_G) (cI cO : ClassId) (k : Int32) : zR l yX6_noSheet wsX6_noSheet ({ frames := 1, cells := 0, slots := 0, locals := 25 } : Room) D cI cO [.int k] [] (some (.int (F_X6_noSheet k))) := by
  refine zR_of (nL := 1) (cc := cX6_noSheet) (ret := some .boolean) (lv := [(0, .int k)]) (by decide +kernel) rfl (Nat.le_of_ble_eq_true rfl) rfl (fun p e s m args below meth c C hr hlk => ?_)
  have hf := F_X6_noSheet.eq_1 k
  refine z_iload_n C dX6_noSheet_0 rfl 0 rfl ?_
  refine z_i2l C dX6_noSheet_1 ?_
  refine z_lconst (v := (0 : Int64)) C dX6_noSheet_2 (by decide) ?_
  refine z_ldc2 C m_X6_noSheet_1 dX6_noSheet_3 ?_
  refine z_cSR (As := [.long k.toInt64, .long (0 : Int64), .long (3 : Int64)]) C (c_X6_in l D cI cO k.toInt64 (0 : Int64) (3 : Int64)) (va_cwS 3 C.2.2.2.2.1 gX6_noSheet_X6_in rfl rfl rfl hdS_X6_in ⟨Nat.le_of_ble_eq_true rfl, Nat.le_of_ble_eq_true rfl⟩) [] rfl rfl rfl _ rfl (Nat.le_of_ble_eq_true rfl) ⟨Nat.zero_le _, Nat.zero_le _⟩ dX6_noSheet_6 ?_
  generalize hu6 : (F_X6_in k.toInt64 (0 : Int64) (3 : Int64)) = u6 at hf ⊢
  refine z_if_ne (tgt := 16) C dX6_noSheet_9 (by decide) (fun c9 => ?_) (fun c9 => ?_)
  · rw [if_neg c9] at hf
    have b9 := c9
    rw [← hu6] at c9
    refine z_iconst (v := (0 : Int32)) C dX6_noSheet_16 (by decide) ?_
    exact z_zretR C hr hlk rfl (by rw [hf]) dX6_noSheet_17
  · rw [if_pos c9] at hf
    have b9 := c9
    rw [← hu6] at c9
    refine z_iconst (v := (1 : Int32)) C dX6_noSheet_12 (by decide) ?_
    refine z_goto (tgt := 17) C dX6_noSheet_13 (by decide) ?_
    exact z_zretR C hr hlk rfl (by rw [hf]) dX6_noSheet_17
-- X6_isBeyond
def F_X6_isBeyond (i : Int32) (n : Int64) (a : Int32) : Int32 :=
  (if i < 0 then (1 : Int32) else (if (lg_cmp n (0 : Int64)) < 0 then (1 : Int32) else (if (lg_cmp (i.toInt64 + n) a.toInt64) ≤ 0 then (0 : Int32) else (1 : Int32))))
set_option maxHeartbeats 4000000 in
set_option maxRecDepth 100000 in
theorem c_X6_isBeyond (l : Launch) (D : va_G) (cI cO : ClassId) (i : Int32) (n : Int64) (a : Int32) : zR l yX6_isBeyond wsX6_isBeyond ({ frames := 0, cells := 0, slots := 0, locals := 0 } : Room) D cI cO [.int i, .long n, .int a] [] (some (.int (F_X6_isBeyond i n a))) := by
  refine zR_of (nL := 4) (cc := cX6_isBeyond) (ret := some .boolean) (lv := [(0, .int i), (1, .long n), (3, .int a)]) (by decide +kernel) rfl (Nat.le_of_ble_eq_true rfl) rfl (fun p e s m args below meth c C hr hlk => ?_)
  have hf := F_X6_isBeyond.eq_1 i n a
  refine z_iload_n C dX6_isBeyond_0 rfl 0 rfl ?_
  refine z_if_lt (tgt := 20) C dX6_isBeyond_1 (by decide) (fun c1 => ?_) (fun c1 => ?_)
  · rw [if_pos c1] at hf
    refine z_iconst (v := (1 : Int32)) C dX6_isBeyond_20 (by decide) ?_
    refine z_goto (tgt := 25) C dX6_isBeyond_21 (by decide) ?_
    exact z_zretR C hr hlk rfl (by rw [hf]) dX6_isBeyond_25
  · rw [if_neg c1] at hf
    refine z_lload_n C dX6_isBeyond_4 rfl 1 rfl ?_
    refine z_lconst (v := (0 : Int64)) C dX6_isBeyond_5 (by decide) ?_
    refine z_lcmp C dX6_isBeyond_6 ?_
    refine z_if_lt (tgt := 20) C dX6_isBeyond_7 (by decide) (fun c7 => ?_) (fun c7 => ?_)
    · rw [if_pos c7] at hf
      refine z_iconst (v := (1 : Int32)) C dX6_isBeyond_20 (by decide) ?_
      refine z_goto (tgt := 25) C dX6_isBeyond_21 (by decide) ?_
      exact z_zretR C hr hlk rfl (by rw [hf]) dX6_isBeyond_25
    · rw [if_neg c7] at hf
      refine z_iload_n C dX6_isBeyond_10 rfl 0 rfl ?_
      refine z_i2l C dX6_isBeyond_11 ?_
      refine z_lload_n C dX6_isBeyond_12 rfl 1 rfl ?_
      refine z_ladd C dX6_isBeyond_13 ?_
      refine z_iload_n C dX6_isBeyond_14 rfl 2 rfl ?_
      refine z_i2l C dX6_isBeyond_15 ?_
      refine z_lcmp C dX6_isBeyond_16 ?_
      refine z_if_le (tgt := 24) C dX6_isBeyond_17 (by decide) (fun c17 => ?_) (fun c17 => ?_)
      · rw [if_pos c17] at hf
        refine z_iconst (v := (0 : Int32)) C dX6_isBeyond_24 (by decide) ?_
        exact z_zretR C hr hlk rfl (by rw [hf]) dX6_isBeyond_25
      · rw [if_neg c17] at hf
        refine z_iconst (v := (1 : Int32)) C dX6_isBeyond_20 (by decide) ?_
        refine z_goto (tgt := 25) C dX6_isBeyond_21 (by decide) ?_
        exact z_zretR C hr hlk rfl (by rw [hf]) dX6_isBeyond_25
theorem noSheet_in {k : Int32} (h : F_X6_noSheet k = 0) : ∃ k0 : Nat, k0 < 4 ∧ k = nI k0 := by
  rw [F_X6_noSheet] at h
  have hi := in_iff k.toInt64 0 3
  rw [l_ti, show (0 : Int64).toInt = 0 by decide, show (3 : Int64).toInt = 3 by decide] at hi
  by_cases c : F_X6_in k.toInt64 (0 : Int64) (3 : Int64) = 0
  · rw [if_pos c] at h; exact absurd h (by decide)
  · have h2 := mt hi.mpr c
    obtain ⟨j, h3, h4⟩ := nI_of (x := k) (fun q => by have := (zl_lt (z := 0) (by decide)).mp q; omega)
    rw [h4, nI_toInt h3] at h2
    exact ⟨j, by omega, h4⟩
theorem k_ix {k : Int32} {k0 : Nat} (e : k = nI k0) (h : k0 < 4) : vp_in k 4 := z_ixN e h (by decide)
theorem noSheet_k {k : Int32} (h : F_X6_noSheet k = 0) : vp_in k 4 := by
  obtain ⟨j, h1, h2⟩ := noSheet_in h
  exact k_ix h2 h1
theorem sheet_e {k y : Int32} {k0 b : Nat} (hk : k = nI k0) (hy : y = nI b) : (60 : Int32) * k + y = nI (60 * k0 + b) := by
  rw [hk, hy, show (60 : Int32) = nI 60 from rfl, pk_mul, nI_add]
theorem sheet_ix {k y : Int32} {k0 b : Nat} (hk : k = nI k0) (h4 : k0 < 4) (hy : y = nI b) (hb : b < 60) : vp_in ((60 : Int32) * k + y) 240 := z_ixN (sheet_e hk hy) (by omega) (by decide)
theorem sheet_ix2 {k y z : Int32} {k0 b d : Nat} (hk : k = nI k0) (h4 : k0 < 4) (hy : y = nI b) (hz : z = nI d) (hb : b + d < 60) : vp_in ((60 : Int32) * k + y + z) 240 := z_ixN (by rw [sheet_e hk hy, hz]; exact nI_add _ _) (by omega) (by decide)
theorem l_add {x : Int32} {n : Int64} (h1 : -1099511627776 < n.toInt) (h2 : n.toInt < 1099511627776) : (x.toInt64 + n).toInt = x.toInt + n.toInt := by
  rw [Int64.toInt_add, l_ti]
  have a := Int32.le_toInt x
  have b := Int32.toInt_lt x
  apply Int.bmod_eq_of_le <;> omega
theorem beyond_iff {i a : Int32} {n : Int64} (h1 : -1099511627776 < n.toInt) (h2 : n.toInt < 1099511627776) : F_X6_isBeyond i n a = 0 ↔ 0 ≤ i.toInt ∧ 0 ≤ n.toInt ∧ i.toInt + n.toInt ≤ a.toInt := by
  rw [F_X6_isBeyond]
  have z : (0 : Int64).toInt = 0 := by decide
  have g1 := lg_lt n 0
  rw [z] at g1
  have g2 := lg_gt (i.toInt64 + n) a.toInt64
  rw [l_add h1 h2, l_ti] at g2
  have g0 := zl_lt (x := i) (k := 0) (z := 0) (by decide)
  by_cases c1 : i < 0
  · rw [if_pos c1]; exact ⟨fun q => absurd q (by decide), fun q => by have := g0.mp c1; omega⟩
  · rw [if_neg c1]
    have d1 := mt g0.mpr c1
    by_cases c2 : lg_cmp n 0 < 0
    · rw [if_pos c2]; exact ⟨fun q => absurd q (by decide), fun q => by have := g1.mp c2; omega⟩
    · rw [if_neg c2]
      have d2 := mt g1.mpr c2
      by_cases c3 : lg_cmp (i.toInt64 + n) a.toInt64 ≤ 0
      · rw [if_pos c3]
        have d3 := mt g2.mpr (Int32.not_lt.mpr c3)
        exact ⟨fun _ => by omega, fun _ => rfl⟩
      · rw [if_neg c3]
        have d3 := g2.mp (Int32.not_le.mp c3)
        exact ⟨fun q => absurd q (by decide), fun q => by omega⟩
theorem beyond_in {i n a : Int32} (ha : a.toInt ≤ 60) (h : F_X6_isBeyond i n.toInt64 a = 0) : ∃ x y : Nat, i = nI x ∧ n = nI y ∧ x + y ≤ 60 := by
  have h1 := Int32.le_toInt n
  have h2 := Int32.toInt_lt n
  have h3 := (beyond_iff (by rw [l_ti]; omega) (by rw [l_ti]; omega)).mp h
  rw [l_ti] at h3
  obtain ⟨x, hx, ex⟩ := nI_of (x := i) (fun q => by have := (zl_lt (z := 0) (by decide)).mp q; omega)
  obtain ⟨y, hy, ey⟩ := nI_of (x := n) (fun q => by have := (zl_lt (z := 0) (by decide)).mp q; omega)
  rw [ex, nI_toInt hx, ey, nI_toInt hy] at h3
  exact ⟨x, y, ex, ey, by omega⟩
-- X6_sheet
theorem m_X6_sheet_1 : Cond.constantLong RX6 117 (2) ∈ wsX6_sheet := List.mem_of_getElem? (i := 1) rfl
theorem i_X6_sheet_6 : ∀ w ∈ u_ws RX6 TX6 30, w ∈ wsX6_sheet := by decide +kernel
theorem m_X6_sheet_2 : Cond.fieldLink RX6 46 "WishPinsModel" "sheetSize" "[I" ∈ wsX6_sheet := List.mem_of_getElem? (i := 2) rfl
theorem m_X6_sheet_3 : Cond.fieldLink RX6 49 "WishPinsModel" "sheetLane" "[I" ∈ wsX6_sheet := List.mem_of_getElem? (i := 3) rfl
theorem m_X6_sheet_4 : Cond.fieldLink RX6 52 "WishPinsModel" "sheet" "[I" ∈ wsX6_sheet := List.mem_of_getElem? (i := 4) rfl
def F_X6_sheet_k65 (ss : Nat → Int32) (sa : Nat → Int32) (k : Int32) (la : Int32) (n : Int32) (x4_65 : Int32) (sh_65 : Nat → Int32) : Int32 × Int32 × (Nat → Int32) × (Nat → Int32) × (Nat → Int32) :=
  ((F_X6_refused (1 : Int32)).1, (F_X6_refused (1 : Int32)).2, (upd ss k.toNatClampNeg n), (upd sa k.toNatClampNeg la), sh_65)
def F_X6_sheet_l65 (k : Int32) (n : Int32) (K_ : Int32 → (Nat → Int32) → Int32 × Int32 × (Nat → Int32) × (Nat → Int32) × (Nat → Int32)) : Nat → Int32 → (Nat → Int32) → Int32 × Int32 × (Nat → Int32) × (Nat → Int32) × (Nat → Int32)
  | 0, x4_65, sh_65 => K_ x4_65 sh_65
  | d65 + 1, x4_65, sh_65 => (if n ≤ x4_65 then (K_ x4_65 sh_65) else (F_X6_sheet_l65 k n K_ d65 (x4_65 + (1 : Int32)) (upd sh_65 (((60 : Int32) * k) + x4_65).toNatClampNeg (0 : Int32))))
def F_X6_sheet (ss : Nat → Int32) (sa : Nat → Int32) (sh : Nat → Int32) (k : Int32) (la : Int32) (n : Int32) : Int32 × Int32 × (Nat → Int32) × (Nat → Int32) × (Nat → Int32) :=
  (if (F_X6_noSheet k) = 0 then (if (F_X6_in la.toInt64 (0 : Int64) (2 : Int64)) = 0 then ((F_X6_refused (-2 : Int32)).1, (F_X6_refused (-2 : Int32)).2, ss, sa, sh) else (if n ≤ (60 : Int32) then (if 0 ≤ n then (F_X6_sheet_l65 k n (F_X6_sheet_k65 ss sa k la n) 61 (0 : Int32) sh) else ((F_X6_failed (4 : Int32)).1, (F_X6_failed (4 : Int32)).2, ss, sa, sh)) else ((F_X6_refused (-2 : Int32)).1, (F_X6_refused (-2 : Int32)).2, ss, sa, sh))) else ((F_X6_refused (-1 : Int32)).1, (F_X6_refused (-1 : Int32)).2, ss, sa, sh))
set_option maxHeartbeats 4000000 in
set_option maxRecDepth 100000 in
theorem c_X6_sheet (l : Launch) (D : va_G) (cI cO : ClassId) (h6 : Nat) (q : Nat → Nat) (fl : Int32) (pn : Int32) (sl : Int32) (dr : Int32) (yn : Int32) (ra : Int32) (rp : Int32) (rs : Int32) (rd : Int32) (ry : Int32) (pk : Int32) (yk : Int32) (rg : Int32) (tc : Int32) (ss : Nat → Int32) (sa : Nat → Int32) (sh : Nat → Int32) (k : Int32) (la : Int32) (n : Int32) : zW l yX6_sheet wsX6_sheet ({ frames := 2, cells := 0, slots := 0, locals := 45 } : Room) D cI cO [.ref h6, .int k, .int la, .int n] [(h6, .inr (6, fM fl pn sl dr yn ra rp rs rd ry pk yk rg tc q)), ((q 25), .inl (cI, 4, .inl ss)), ((q 26), .inl (cI, 4, .inl sa)), ((q 27), .inl (cI, 240, .inl sh))] [(h6, .inr (6, fM ((F_X6_sheet ss sa sh k la n).2.1) pn sl dr yn ra rp rs rd ry pk yk rg tc q)), ((q 25), .inl (cI, 4, .inl ((F_X6_sheet ss sa sh k la n).2.2.1))), ((q 26), .inl (cI, 4, .inl ((F_X6_sheet ss sa sh k la n).2.2.2.1))), ((q 27), .inl (cI, 240, .inl ((F_X6_sheet ss sa sh k la n).2.2.2.2)))] (some (.int ((F_X6_sheet ss sa sh k la n).1))) := by
  refine zW_of (nL := 5) (cc := cX6_sheet) (ret := some .int) (lv := [(0, .ref h6), (1, .int k), (2, .int la), (3, .int n)]) (by decide +kernel) rfl (Nat.le_of_ble_eq_true rfl) rfl (fun p e s m args below meth c C hr hlk => ?_)
  have hf := F_X6_sheet.eq_1 ss sa sh k la n
  refine z_iload_n C dX6_sheet_0 rfl 1 rfl ?_
  refine z_cSR (As := [.int k]) C (c_X6_noSheet l D cI cO k) (va_cwS 1 C.2.2.2.2.1 gX6_sheet_X6_noSheet rfl rfl rfl hdS_X6_noSheet ⟨Nat.le_of_ble_eq_true rfl, Nat.le_of_ble_eq_true rfl⟩) [] rfl rfl rfl _ rfl (Nat.le_of_ble_eq_true rfl) ⟨Nat.zero_le _, Nat.zero_le _⟩ dX6_sheet_1 ?_
  generalize hu1 : (F_X6_noSheet k) = u1 at hf ⊢
  refine z_if_eq (tgt := 13) C dX6_sheet_4 (by decide) (fun c4 => ?_) (fun c4 => ?_)
  · rw [if_pos c4] at hf
    have b4 := c4
    rw [← hu1] at c4
    refine z_iload_n C dX6_sheet_13 rfl 2 rfl ?_
    refine z_i2l C dX6_sheet_14 ?_
    refine z_lconst (v := (0 : Int64)) C dX6_sheet_15 (by decide) ?_
    refine z_ldc2 C m_X6_sheet_1 dX6_sheet_16 ?_
    refine z_cSR (As := [.long la.toInt64, .long (0 : Int64), .long (2 : Int64)]) C (c_X6_in l D cI cO la.toInt64 (0 : Int64) (2 : Int64)) (va_cwS 3 C.2.2.2.2.1 gX6_sheet_X6_in rfl rfl rfl hdS_X6_in ⟨Nat.le_of_ble_eq_true rfl, Nat.le_of_ble_eq_true rfl⟩) [] rfl rfl rfl _ rfl (Nat.le_of_ble_eq_true rfl) ⟨Nat.zero_le _, Nat.zero_le _⟩ dX6_sheet_19 ?_
    generalize hu19 : (F_X6_in la.toInt64 (0 : Int64) (2 : Int64)) = u19 at hf ⊢
    refine z_if_eq (tgt := 31) C dX6_sheet_22 (by decide) (fun c22 => ?_) (fun c22 => ?_)
    · rw [if_pos c22] at hf
      have b22 := c22
      rw [← hu19] at c22
      refine z_aload_n C dX6_sheet_31 rfl 0 rfl ?_
      refine z_bipush (v := (-2 : Int32)) C dX6_sheet_32 (by decide) ?_
      refine z_cVW (As := [.int (-2 : Int32)]) C (c_X6_refused l D cI cO h6 q fl pn sl dr yn ra rp rs rd ry pk yk rg tc (-2 : Int32)) (cwV 1 C.2.2.2.2.1 gX6_sheet_X6_refused rfl rfl rfl hdV_X6_refused ⟨Nat.le_of_ble_eq_true rfl, Nat.le_of_ble_eq_true rfl⟩) [(h6, .inr (6, fM ((F_X6_refused (-2 : Int32)).2) pn sl dr yn ra rp rs rd ry pk yk rg tc q)), ((q 25), .inl (cI, 4, .inl ss)), ((q 26), .inl (cI, 4, .inl sa)), ((q 27), .inl (cI, 240, .inl sh))] [0] rfl rfl (Eq.refl [h6]) rfl 0 rfl rfl rfl _ rfl (Nat.le_of_ble_eq_true rfl) ⟨Nat.zero_le _, Nat.zero_le _⟩ dX6_sheet_34 ?_
      generalize hu34 : (F_X6_refused (-2 : Int32)) = u34 at hf ⊢
      exact z_iretW C hr hlk (by rw [hf]) (by rw [hf]) dX6_sheet_37
    · rw [if_neg c22] at hf
      have b22 := c22
      rw [← hu19] at c22
      refine z_iload_n C dX6_sheet_25 rfl 3 rfl ?_
      refine z_bipush (v := (60 : Int32)) C dX6_sheet_26 (by decide) ?_
      refine z_icmp_le (tgt := 38) C dX6_sheet_28 (by decide) (fun c28 => ?_) (fun c28 => ?_)
      · rw [if_pos c28] at hf
        refine z_iload_n C dX6_sheet_38 rfl 3 rfl ?_
        refine z_if_ge (tgt := 48) C dX6_sheet_39 (by decide) (fun c39 => ?_) (fun c39 => ?_)
        · rw [if_pos c39] at hf
          refine z_aload_n C dX6_sheet_48 rfl 0 rfl ?_
          refine z_get (T := TX6) (v := .ref (q 25)) C i_X6_sheet_6 0 rfl rfl 25 (by decide) m_X6_sheet_2 rfl rfl dX6_sheet_49 ?_
          refine z_iload_n C dX6_sheet_52 rfl 1 rfl ?_
          refine z_iload_n C dX6_sheet_53 rfl 3 rfl ?_
          refine z_ast C [(h6, .inr (6, fM fl pn sl dr yn ra rp rs rd ry pk yk rg tc q)), ((q 25), .inl (cI, 4, .inl (upd ss k.toNatClampNeg n))), ((q 26), .inl (cI, 4, .inl sa)), ((q 27), .inl (cI, 240, .inl sh))] 1 rfl (by subst hu19 hu1; exact (noSheet_k c4)) dX6_sheet_54 rfl ?_
          refine z_aload_n C dX6_sheet_55 rfl 0 rfl ?_
          refine z_get (T := TX6) (v := .ref (q 26)) C i_X6_sheet_6 0 rfl rfl 26 (by decide) m_X6_sheet_3 rfl rfl dX6_sheet_56 ?_
          refine z_iload_n C dX6_sheet_59 rfl 1 rfl ?_
          refine z_iload_n C dX6_sheet_60 rfl 2 rfl ?_
          refine z_ast C [(h6, .inr (6, fM fl pn sl dr yn ra rp rs rd ry pk yk rg tc q)), ((q 25), .inl (cI, 4, .inl (upd ss k.toNatClampNeg n))), ((q 26), .inl (cI, 4, .inl (upd sa k.toNatClampNeg la))), ((q 27), .inl (cI, 240, .inl sh))] 2 rfl (by subst hu19 hu1; exact (noSheet_k c4)) dX6_sheet_61 rfl ?_
          obtain ⟨k0, hk0, hk1⟩ := noSheet_in c4
          obtain ⟨N0, hN0, hN1⟩ := nI_of2 (M := 60) (n := 60) (by decide) (Int32.not_lt.mpr c39) c28
          refine z_iconst (v := (0 : Int32)) C dX6_sheet_62 (by decide) ?_
          refine z_istore C [(0, .ref h6), (1, .int k), (2, .int la), (3, .int n), (4, .int (0 : Int32))] dX6_sheet_63 (by decide) [1, 2, 3, 4, 0] rfl ?_
          have X65 : ∀ (x4_65 : Int32) (sh_65 : Nat → Int32), F_X6_sheet ss sa sh k la n = (F_X6_sheet_k65 ss sa k la n) x4_65 sh_65 → zG p l e ({ frames := 2, cells := 0, slots := 0, locals := 45 } : Room) s m args below meth c D (zA [(h6, .inr (6, fM fl pn sl dr yn ra rp rs rd ry pk yk rg tc q)), ((q 25), .inl (cI, 4, .inl ss)), ((q 26), .inl (cI, 4, .inl sa)), ((q 27), .inl (cI, 240, .inl sh))]) (zXw (zA [(h6, .inr (6, fM fl pn sl dr yn ra rp rs rd ry pk yk rg tc q)), ((q 25), .inl (cI, 4, .inl ss)), ((q 26), .inl (cI, 4, .inl sa)), ((q 27), .inl (cI, 240, .inl sh))]) s.heap) 5 0 0 (MQ below (zQw D [(h6, .inr (6, fM ((F_X6_sheet ss sa sh k la n).2.1) pn sl dr yn ra rp rs rd ry pk yk rg tc q)), ((q 25), .inl (cI, 4, .inl ((F_X6_sheet ss sa sh k la n).2.2.1))), ((q 26), .inl (cI, 4, .inl ((F_X6_sheet ss sa sh k la n).2.2.2.1))), ((q 27), .inl (cI, 240, .inl ((F_X6_sheet ss sa sh k la n).2.2.2.2)))] (zA [(h6, .inr (6, fM fl pn sl dr yn ra rp rs rd ry pk yk rg tc q)), ((q 25), .inl (cI, 4, .inl ss)), ((q 26), .inl (cI, 4, .inl sa)), ((q 27), .inl (cI, 240, .inl sh))]) (some (.int ((F_X6_sheet ss sa sh k la n).1)))) args s 0 0 (zA [(h6, .inr (6, fM fl pn sl dr yn ra rp rs rd ry pk yk rg tc q)), ((q 25), .inl (cI, 4, .inl ss)), ((q 26), .inl (cI, 4, .inl sa)), ((q 27), .inl (cI, 240, .inl sh))])) 90 [(0, .ref h6), (1, .int k), (2, .int la), (3, .int n), (4, .int x4_65)] [] [(h6, .inr (6, fM fl pn sl dr yn ra rp rs rd ry pk yk rg tc q)), ((q 25), .inl (cI, 4, .inl (upd ss k.toNatClampNeg n))), ((q 26), .inl (cI, 4, .inl (upd sa k.toNatClampNeg la))), ((q 27), .inl (cI, 240, .inl sh_65))] := by
            intro x4_65 sh_65 hf
            rw [F_X6_sheet_k65] at hf
            skip
            refine z_aload_n C dX6_sheet_90 rfl 0 rfl ?_
            refine z_iconst (v := (1 : Int32)) C dX6_sheet_91 (by decide) ?_
            refine z_cVW (As := [.int (1 : Int32)]) C (c_X6_refused l D cI cO h6 q fl pn sl dr yn ra rp rs rd ry pk yk rg tc (1 : Int32)) (cwV 1 C.2.2.2.2.1 gX6_sheet_X6_refused rfl rfl rfl hdV_X6_refused ⟨Nat.le_of_ble_eq_true rfl, Nat.le_of_ble_eq_true rfl⟩) [(h6, .inr (6, fM ((F_X6_refused (1 : Int32)).2) pn sl dr yn ra rp rs rd ry pk yk rg tc q)), ((q 25), .inl (cI, 4, .inl (upd ss k.toNatClampNeg n))), ((q 26), .inl (cI, 4, .inl (upd sa k.toNatClampNeg la))), ((q 27), .inl (cI, 240, .inl sh_65))] [0] rfl rfl (Eq.refl [h6]) rfl 0 rfl rfl rfl _ rfl (Nat.le_of_ble_eq_true rfl) ⟨Nat.zero_le _, Nat.zero_le _⟩ dX6_sheet_92 ?_
            generalize hu92 : (F_X6_refused (1 : Int32)) = u92 at hf ⊢
            exact z_iretW C hr hlk (by rw [hf]) (by rw [hf]) dX6_sheet_95
          have L65 : ∀ (d65 : Nat) (j : Nat) (x4_65 : Int32) (sh_65 : Nat → Int32) (e4 : x4_65 = nI j) (hj : j ≤ N0) (hd : N0 < j + d65), F_X6_sheet ss sa sh k la n = F_X6_sheet_l65 k n (F_X6_sheet_k65 ss sa k la n) d65 x4_65 sh_65 → zG p l e ({ frames := 2, cells := 0, slots := 0, locals := 45 } : Room) s m args below meth c D (zA [(h6, .inr (6, fM fl pn sl dr yn ra rp rs rd ry pk yk rg tc q)), ((q 25), .inl (cI, 4, .inl ss)), ((q 26), .inl (cI, 4, .inl sa)), ((q 27), .inl (cI, 240, .inl sh))]) (zXw (zA [(h6, .inr (6, fM fl pn sl dr yn ra rp rs rd ry pk yk rg tc q)), ((q 25), .inl (cI, 4, .inl ss)), ((q 26), .inl (cI, 4, .inl sa)), ((q 27), .inl (cI, 240, .inl sh))]) s.heap) 5 0 0 (MQ below (zQw D [(h6, .inr (6, fM ((F_X6_sheet ss sa sh k la n).2.1) pn sl dr yn ra rp rs rd ry pk yk rg tc q)), ((q 25), .inl (cI, 4, .inl ((F_X6_sheet ss sa sh k la n).2.2.1))), ((q 26), .inl (cI, 4, .inl ((F_X6_sheet ss sa sh k la n).2.2.2.1))), ((q 27), .inl (cI, 240, .inl ((F_X6_sheet ss sa sh k la n).2.2.2.2)))] (zA [(h6, .inr (6, fM fl pn sl dr yn ra rp rs rd ry pk yk rg tc q)), ((q 25), .inl (cI, 4, .inl ss)), ((q 26), .inl (cI, 4, .inl sa)), ((q 27), .inl (cI, 240, .inl sh))]) (some (.int ((F_X6_sheet ss sa sh k la n).1)))) args s 0 0 (zA [(h6, .inr (6, fM fl pn sl dr yn ra rp rs rd ry pk yk rg tc q)), ((q 25), .inl (cI, 4, .inl ss)), ((q 26), .inl (cI, 4, .inl sa)), ((q 27), .inl (cI, 240, .inl sh))])) 65 [(0, .ref h6), (1, .int k), (2, .int la), (3, .int n), (4, .int x4_65)] [] [(h6, .inr (6, fM fl pn sl dr yn ra rp rs rd ry pk yk rg tc q)), ((q 25), .inl (cI, 4, .inl (upd ss k.toNatClampNeg n))), ((q 26), .inl (cI, 4, .inl (upd sa k.toNatClampNeg la))), ((q 27), .inl (cI, 240, .inl sh_65))] := by
            intro d65
            induction d65 with
            | zero =>
              intro j x4_65 sh_65 e4 hj hd hf
              exfalso; omega
            | succ d65 ih65 =>
              intro j x4_65 sh_65 e4 hj hd hf
              rw [F_X6_sheet_l65] at hf
              skip
              refine z_iload C dX6_sheet_65 4 rfl ?_
              refine z_iload_n C dX6_sheet_67 rfl 3 rfl ?_
              refine z_icmp_ge (tgt := 90) C dX6_sheet_68 (by decide) (fun c68 => ?_) (fun c68 => ?_)
              · rw [if_pos c68] at hf
                exact X65 x4_65 sh_65  hf
              · rw [if_neg c68] at hf
                refine z_aload_n C dX6_sheet_71 rfl 0 rfl ?_
                refine z_get (T := TX6) (v := .ref (q 27)) C i_X6_sheet_6 0 rfl rfl 27 (by decide) m_X6_sheet_4 rfl rfl dX6_sheet_72 ?_
                refine z_bipush (v := (60 : Int32)) C dX6_sheet_75 (by decide) ?_
                refine z_iload_n C dX6_sheet_77 rfl 1 rfl ?_
                refine z_imul C dX6_sheet_78 ?_
                refine z_iload C dX6_sheet_79 4 rfl ?_
                refine z_iadd C dX6_sheet_81 ?_
                refine z_iconst (v := (0 : Int32)) C dX6_sheet_82 (by decide) ?_
                refine z_ast C [(h6, .inr (6, fM fl pn sl dr yn ra rp rs rd ry pk yk rg tc q)), ((q 25), .inl (cI, 4, .inl (upd ss k.toNatClampNeg n))), ((q 26), .inl (cI, 4, .inl (upd sa k.toNatClampNeg la))), ((q 27), .inl (cI, 240, .inl (upd sh_65 (((60 : Int32) * k) + x4_65).toNatClampNeg (0 : Int32))))] 3 rfl (by subst hu19 hu1; exact (sheet_ix hk1 hk0 e4 (by have := z_jlt e4 (by omega) (z_tiN hN1 (by omega)) c68; omega))) dX6_sheet_83 rfl ?_
                refine z_iinc (v := (x4_65 + (1 : Int32))) C [(0, .ref h6), (1, .int k), (2, .int la), (3, .int n), (4, .int (x4_65 + (1 : Int32)))] dX6_sheet_84 4 rfl (by rfl) (by decide) [1, 2, 3, 4, 0] rfl ?_
                refine z_goto (tgt := 65) C dX6_sheet_87 (by decide) ?_
                exact ih65 (j + 1) (x4_65 + (1 : Int32)) (upd sh_65 (((60 : Int32) * k) + x4_65).toNatClampNeg (0 : Int32)) (by subst hu19 hu1; exact (by rw [e4]; exact nI_1 j)) (by subst hu19 hu1; exact (by have := z_jlt e4 (by omega) (z_tiN hN1 (by omega)) c68; omega)) (by omega) hf
          exact L65 61 0 (0 : Int32) sh (by subst hu19 hu1; exact nI_0.symm) (by subst hu19 hu1; exact (Nat.zero_le _)) (by omega) hf
        · rw [if_neg c39] at hf
          refine z_aload_n C dX6_sheet_42 rfl 0 rfl ?_
          refine z_iconst (v := (4 : Int32)) C dX6_sheet_43 (by decide) ?_
          refine z_cVW (As := [.int (4 : Int32)]) C (c_X6_failed l D cI cO h6 q fl pn sl dr yn ra rp rs rd ry pk yk rg tc (4 : Int32)) (cwV 1 C.2.2.2.2.1 gX6_sheet_X6_failed rfl rfl rfl hdV_X6_failed ⟨Nat.le_of_ble_eq_true rfl, Nat.le_of_ble_eq_true rfl⟩) [(h6, .inr (6, fM ((F_X6_failed (4 : Int32)).2) pn sl dr yn ra rp rs rd ry pk yk rg tc q)), ((q 25), .inl (cI, 4, .inl ss)), ((q 26), .inl (cI, 4, .inl sa)), ((q 27), .inl (cI, 240, .inl sh))] [0] rfl rfl (Eq.refl [h6]) rfl 0 rfl rfl rfl _ rfl (Nat.le_of_ble_eq_true rfl) ⟨Nat.zero_le _, Nat.zero_le _⟩ dX6_sheet_44 ?_
          generalize hu44 : (F_X6_failed (4 : Int32)) = u44 at hf ⊢
          exact z_iretW C hr hlk (by rw [hf]) (by rw [hf]) dX6_sheet_47
      · rw [if_neg c28] at hf
        refine z_aload_n C dX6_sheet_31 rfl 0 rfl ?_
        refine z_bipush (v := (-2 : Int32)) C dX6_sheet_32 (by decide) ?_
        refine z_cVW (As := [.int (-2 : Int32)]) C (c_X6_refused l D cI cO h6 q fl pn sl dr yn ra rp rs rd ry pk yk rg tc (-2 : Int32)) (cwV 1 C.2.2.2.2.1 gX6_sheet_X6_refused rfl rfl rfl hdV_X6_refused ⟨Nat.le_of_ble_eq_true rfl, Nat.le_of_ble_eq_true rfl⟩) [(h6, .inr (6, fM ((F_X6_refused (-2 : Int32)).2) pn sl dr yn ra rp rs rd ry pk yk rg tc q)), ((q 25), .inl (cI, 4, .inl ss)), ((q 26), .inl (cI, 4, .inl sa)), ((q 27), .inl (cI, 240, .inl sh))] [0] rfl rfl (Eq.refl [h6]) rfl 0 rfl rfl rfl _ rfl (Nat.le_of_ble_eq_true rfl) ⟨Nat.zero_le _, Nat.zero_le _⟩ dX6_sheet_34 ?_
        generalize hu34 : (F_X6_refused (-2 : Int32)) = u34 at hf ⊢
        exact z_iretW C hr hlk (by rw [hf]) (by rw [hf]) dX6_sheet_37
  · rw [if_neg c4] at hf
    have b4 := c4
    rw [← hu1] at c4
    refine z_aload_n C dX6_sheet_7 rfl 0 rfl ?_
    refine z_iconst (v := (-1 : Int32)) C dX6_sheet_8 (by decide) ?_
    refine z_cVW (As := [.int (-1 : Int32)]) C (c_X6_refused l D cI cO h6 q fl pn sl dr yn ra rp rs rd ry pk yk rg tc (-1 : Int32)) (cwV 1 C.2.2.2.2.1 gX6_sheet_X6_refused rfl rfl rfl hdV_X6_refused ⟨Nat.le_of_ble_eq_true rfl, Nat.le_of_ble_eq_true rfl⟩) [(h6, .inr (6, fM ((F_X6_refused (-1 : Int32)).2) pn sl dr yn ra rp rs rd ry pk yk rg tc q)), ((q 25), .inl (cI, 4, .inl ss)), ((q 26), .inl (cI, 4, .inl sa)), ((q 27), .inl (cI, 240, .inl sh))] [0] rfl rfl (Eq.refl [h6]) rfl 0 rfl rfl rfl _ rfl (Nat.le_of_ble_eq_true rfl) ⟨Nat.zero_le _, Nat.zero_le _⟩ dX6_sheet_9 ?_
    generalize hu9 : (F_X6_refused (-1 : Int32)) = u9 at hf ⊢
    exact z_iretW C hr hlk (by rw [hf]) (by rw [hf]) dX6_sheet_12
-- X6_lose
theorem i_X6_lose_6 : ∀ w ∈ u_ws RX6 TX6 30, w ∈ wsX6_lose := by decide +kernel
theorem m_X6_lose_1 : Cond.fieldLink RX6 46 "WishPinsModel" "sheetSize" "[I" ∈ wsX6_lose := List.mem_of_getElem? (i := 1) rfl
def F_X6_lose (ss : Nat → Int32) (k : Int32) : Int32 × (Nat → Int32) :=
  (if (F_X6_noSheet k) = 0 then (if 0 ≤ (ss k.toNatClampNeg) then ((1 : Int32), (upd ss k.toNatClampNeg (-1 : Int32))) else ((0 : Int32), (upd ss k.toNatClampNeg (-1 : Int32)))) else ((-1 : Int32), ss))
set_option maxHeartbeats 4000000 in
set_option maxRecDepth 100000 in
theorem c_X6_lose (l : Launch) (D : va_G) (cI cO : ClassId) (h6 : Nat) (q : Nat → Nat) (fl : Int32) (pn : Int32) (sl : Int32) (dr : Int32) (yn : Int32) (ra : Int32) (rp : Int32) (rs : Int32) (rd : Int32) (ry : Int32) (pk : Int32) (yk : Int32) (rg : Int32) (tc : Int32) (ss : Nat → Int32) (k : Int32) : zW l yX6_lose wsX6_lose ({ frames := 2, cells := 0, slots := 0, locals := 45 } : Room) D cI cO [.ref h6, .int k] [(h6, .inr (6, fM fl pn sl dr yn ra rp rs rd ry pk yk rg tc q)), ((q 25), .inl (cI, 4, .inl ss))] [(h6, .inr (6, fM fl pn sl dr yn ra rp rs rd ry pk yk rg tc q)), ((q 25), .inl (cI, 4, .inl ((F_X6_lose ss k).2)))] (some (.int ((F_X6_lose ss k).1))) := by
  refine zW_of (nL := 3) (cc := cX6_lose) (ret := some .int) (lv := [(0, .ref h6), (1, .int k)]) (by decide +kernel) rfl (Nat.le_of_ble_eq_true rfl) rfl (fun p e s m args below meth c C hr hlk => ?_)
  have hf := F_X6_lose.eq_1 ss k
  refine z_iload_n C dX6_lose_0 rfl 1 rfl ?_
  refine z_cSR (As := [.int k]) C (c_X6_noSheet l D cI cO k) (va_cwS 1 C.2.2.2.2.1 gX6_lose_X6_noSheet rfl rfl rfl hdS_X6_noSheet ⟨Nat.le_of_ble_eq_true rfl, Nat.le_of_ble_eq_true rfl⟩) [] rfl rfl rfl _ rfl (Nat.le_of_ble_eq_true rfl) ⟨Nat.zero_le _, Nat.zero_le _⟩ dX6_lose_1 ?_
  generalize hu1 : (F_X6_noSheet k) = u1 at hf ⊢
  refine z_if_eq (tgt := 9) C dX6_lose_4 (by decide) (fun c4 => ?_) (fun c4 => ?_)
  · rw [if_pos c4] at hf
    have b4 := c4
    rw [← hu1] at c4
    refine z_aload_n C dX6_lose_9 rfl 0 rfl ?_
    refine z_get (T := TX6) (v := .ref (q 25)) C i_X6_lose_6 0 rfl rfl 25 (by decide) m_X6_lose_1 rfl rfl dX6_lose_10 ?_
    refine z_iload_n C dX6_lose_13 rfl 1 rfl ?_
    refine z_ald C 1 rfl (by subst hu1; exact (noSheet_k c4)) dX6_lose_14 ?_
    refine z_if_ge (tgt := 22) C dX6_lose_15 (by decide) (fun c15 => ?_) (fun c15 => ?_)
    · rw [if_pos c15] at hf
      refine z_iconst (v := (1 : Int32)) C dX6_lose_22 (by decide) ?_
      refine z_istore_n C [(0, .ref h6), (1, .int k), (2, .int (1 : Int32))] dX6_lose_23 rfl (by decide) [1, 2, 0] rfl ?_
      refine z_aload_n C dX6_lose_24 rfl 0 rfl ?_
      refine z_get (T := TX6) (v := .ref (q 25)) C i_X6_lose_6 0 rfl rfl 25 (by decide) m_X6_lose_1 rfl rfl dX6_lose_25 ?_
      refine z_iload_n C dX6_lose_28 rfl 1 rfl ?_
      refine z_iconst (v := (-1 : Int32)) C dX6_lose_29 (by decide) ?_
      refine z_ast C [(h6, .inr (6, fM fl pn sl dr yn ra rp rs rd ry pk yk rg tc q)), ((q 25), .inl (cI, 4, .inl (upd ss k.toNatClampNeg (-1 : Int32))))] 1 rfl (by subst hu1; exact (noSheet_k c4)) dX6_lose_30 rfl ?_
      refine z_iload_n C dX6_lose_31 rfl 2 rfl ?_
      exact z_iretW C hr hlk (by rw [hf]) (by rw [hf]) dX6_lose_32
    · rw [if_neg c15] at hf
      refine z_iconst (v := (0 : Int32)) C dX6_lose_18 (by decide) ?_
      refine z_goto (tgt := 23) C dX6_lose_19 (by decide) ?_
      refine z_istore_n C [(0, .ref h6), (1, .int k), (2, .int (0 : Int32))] dX6_lose_23 rfl (by decide) [1, 2, 0] rfl ?_
      refine z_aload_n C dX6_lose_24 rfl 0 rfl ?_
      refine z_get (T := TX6) (v := .ref (q 25)) C i_X6_lose_6 0 rfl rfl 25 (by decide) m_X6_lose_1 rfl rfl dX6_lose_25 ?_
      refine z_iload_n C dX6_lose_28 rfl 1 rfl ?_
      refine z_iconst (v := (-1 : Int32)) C dX6_lose_29 (by decide) ?_
      refine z_ast C [(h6, .inr (6, fM fl pn sl dr yn ra rp rs rd ry pk yk rg tc q)), ((q 25), .inl (cI, 4, .inl (upd ss k.toNatClampNeg (-1 : Int32))))] 1 rfl (by subst hu1; exact (noSheet_k c4)) dX6_lose_30 rfl ?_
      refine z_iload_n C dX6_lose_31 rfl 2 rfl ?_
      exact z_iretW C hr hlk (by rw [hf]) (by rw [hf]) dX6_lose_32
  · rw [if_neg c4] at hf
    have b4 := c4
    rw [← hu1] at c4
    refine z_iconst (v := (-1 : Int32)) C dX6_lose_7 (by decide) ?_
    exact z_iretW C hr hlk (by rw [hf]) (by rw [hf]) dX6_lose_8
-- X6_noCell
theorem i_X6_noCell_6 : ∀ w ∈ u_ws RX6 TX6 30, w ∈ wsX6_noCell := by decide +kernel
theorem m_X6_noCell_1 : Cond.fieldLink RX6 46 "WishPinsModel" "sheetSize" "[I" ∈ wsX6_noCell := List.mem_of_getElem? (i := 1) rfl
def F_X6_noCell (ss : Nat → Int32) (k : Int32) (i : Int32) : Int32 :=
  (if 0 ≤ (ss k.toNatClampNeg) then (if (F_X6_in i.toInt64 (0 : Int64) ((ss k.toNatClampNeg).toInt64 - (1 : Int64))) = 0 then (3 : Int32) else (0 : Int32)) else (1 : Int32))
set_option maxHeartbeats 4000000 in
set_option maxRecDepth 100000 in
theorem c_X6_noCell (l : Launch) (D : va_G) (cI cO : ClassId) (h6 : Nat) (q : Nat → Nat) (fl : Int32) (pn : Int32) (sl : Int32) (dr : Int32) (yn : Int32) (ra : Int32) (rp : Int32) (rs : Int32) (rd : Int32) (ry : Int32) (pk : Int32) (yk : Int32) (rg : Int32) (tc : Int32) (ss : Nat → Int32) (k : Int32) (i : Int32) (hk4 : vp_in k 4) : zR l yX6_noCell wsX6_noCell ({ frames := 1, cells := 0, slots := 0, locals := 25 } : Room) D cI cO [.ref h6, .int k, .int i] [(h6, .inr (6, fM fl pn sl dr yn ra rp rs rd ry pk yk rg tc q)), ((q 25), .inl (cI, 4, .inl ss))] (some (.int (F_X6_noCell ss k i))) := by
  refine zR_of (nL := 3) (cc := cX6_noCell) (ret := some .int) (lv := [(0, .ref h6), (1, .int k), (2, .int i)]) (by decide +kernel) rfl (Nat.le_of_ble_eq_true rfl) rfl (fun p e s m args below meth c C hr hlk => ?_)
  have hf := F_X6_noCell.eq_1 ss k i
  refine z_aload_n C dX6_noCell_0 rfl 0 rfl ?_
  refine z_get (T := TX6) (v := .ref (q 25)) C i_X6_noCell_6 0 rfl rfl 25 (by decide) m_X6_noCell_1 rfl rfl dX6_noCell_1 ?_
  refine z_iload_n C dX6_noCell_4 rfl 1 rfl ?_
  refine z_ald C 1 rfl hk4 dX6_noCell_5 ?_
  refine z_if_ge (tgt := 13) C dX6_noCell_6 (by decide) (fun c6 => ?_) (fun c6 => ?_)
  · rw [if_pos c6] at hf
    refine z_iload_n C dX6_noCell_13 rfl 2 rfl ?_
    refine z_i2l C dX6_noCell_14 ?_
    refine z_lconst (v := (0 : Int64)) C dX6_noCell_15 (by decide) ?_
    refine z_aload_n C dX6_noCell_16 rfl 0 rfl ?_
    refine z_get (T := TX6) (v := .ref (q 25)) C i_X6_noCell_6 0 rfl rfl 25 (by decide) m_X6_noCell_1 rfl rfl dX6_noCell_17 ?_
    refine z_iload_n C dX6_noCell_20 rfl 1 rfl ?_
    refine z_ald C 1 rfl hk4 dX6_noCell_21 ?_
    refine z_i2l C dX6_noCell_22 ?_
    refine z_lconst (v := (1 : Int64)) C dX6_noCell_23 (by decide) ?_
    refine z_lsub C dX6_noCell_24 ?_
    refine z_cSR (As := [.long i.toInt64, .long (0 : Int64), .long ((ss k.toNatClampNeg).toInt64 - (1 : Int64))]) C (c_X6_in l D cI cO i.toInt64 (0 : Int64) ((ss k.toNatClampNeg).toInt64 - (1 : Int64))) (va_cwS 3 C.2.2.2.2.1 gX6_noCell_X6_in rfl rfl rfl hdS_X6_in ⟨Nat.le_of_ble_eq_true rfl, Nat.le_of_ble_eq_true rfl⟩) [] rfl rfl rfl _ rfl (Nat.le_of_ble_eq_true rfl) ⟨Nat.zero_le _, Nat.zero_le _⟩ dX6_noCell_25 ?_
    generalize hu25 : (F_X6_in i.toInt64 (0 : Int64) ((ss k.toNatClampNeg).toInt64 - (1 : Int64))) = u25 at hf ⊢
    refine z_if_eq (tgt := 35) C dX6_noCell_28 (by decide) (fun c28 => ?_) (fun c28 => ?_)
    · rw [if_pos c28] at hf
      have b28 := c28
      rw [← hu25] at c28
      refine z_iconst (v := (3 : Int32)) C dX6_noCell_35 (by decide) ?_
      exact z_iretR C hr hlk (by rw [hf]) dX6_noCell_36
    · rw [if_neg c28] at hf
      have b28 := c28
      rw [← hu25] at c28
      refine z_iconst (v := (0 : Int32)) C dX6_noCell_31 (by decide) ?_
      refine z_goto (tgt := 36) C dX6_noCell_32 (by decide) ?_
      exact z_iretR C hr hlk (by rw [hf]) dX6_noCell_36
  · rw [if_neg c6] at hf
    refine z_iconst (v := (1 : Int32)) C dX6_noCell_9 (by decide) ?_
    refine z_goto (tgt := 36) C dX6_noCell_10 (by decide) ?_
    exact z_iretR C hr hlk (by rw [hf]) dX6_noCell_36
theorem noCell_in {ss : Nat → Int32} {k i : Int32} {k0 : Nat} (hss : ∀ i, i < 4 → (ss i).toInt ≤ 60) (hk : k = nI k0) (h4 : k0 < 4) (h : F_X6_noCell ss k i ≤ 0) : ∃ b : Nat, b < 60 ∧ i = nI b := by
  rw [F_X6_noCell] at h
  have hh := hss k0 h4
  have ek : k.toNatClampNeg = k0 := by rw [hk]; exact nI_clamp (by omega)
  rw [ek] at h
  by_cases c1 : 0 ≤ ss k0
  case neg => rw [if_neg c1] at h; exact absurd h (by decide)
  · rw [if_pos c1] at h
    have hi := in_iff i.toInt64 0 ((ss k0).toInt64 - 1)
    rw [l_ti, l_ti1, show (0 : Int64).toInt = 0 by decide] at hi
    by_cases c : F_X6_in i.toInt64 (0 : Int64) ((ss k0).toInt64 - (1 : Int64)) = 0
    · rw [if_pos c] at h; exact absurd h (by decide)
    · have h2 := mt hi.mpr c
      obtain ⟨j, h3, h4⟩ := nI_of (x := i) (fun q => by have := (zl_lt (z := 0) (by decide)).mp q; omega)
      rw [h4, nI_toInt h3] at h2
      exact ⟨j, by omega, h4⟩
-- X6_put
theorem i_X6_put_6 : ∀ w ∈ u_ws RX6 TX6 30, w ∈ wsX6_put := by decide +kernel
theorem m_X6_put_1 : Cond.fieldLink RX6 52 "WishPinsModel" "sheet" "[I" ∈ wsX6_put := List.mem_of_getElem? (i := 1) rfl
theorem m_X6_put_2 : Cond.fieldLink RX6 49 "WishPinsModel" "sheetLane" "[I" ∈ wsX6_put := List.mem_of_getElem? (i := 2) rfl
def F_X6_put (ss : Nat → Int32) (sa : Nat → Int32) (sh : Nat → Int32) (k : Int32) (i : Int32) (v : Int32) : Int32 × Int32 × (Nat → Int32) :=
  (if (F_X6_noSheet k) = 0 then (if (F_X6_noCell ss k i) ≤ 0 then (if (sa k.toNatClampNeg) = 0 then ((F_X6_refused (1 : Int32)).1, (F_X6_refused (1 : Int32)).2, (upd sh (((60 : Int32) * k) + i).toNatClampNeg v.toInt8.toInt32)) else (if (sa k.toNatClampNeg) = (1 : Int32) then ((F_X6_refused (1 : Int32)).1, (F_X6_refused (1 : Int32)).2, (upd sh (((60 : Int32) * k) + i).toNatClampNeg v.toInt16.toInt32)) else ((F_X6_refused (1 : Int32)).1, (F_X6_refused (1 : Int32)).2, (upd sh (((60 : Int32) * k) + i).toNatClampNeg v)))) else ((F_X6_failed (F_X6_noCell ss k i)).1, (F_X6_failed (F_X6_noCell ss k i)).2, sh)) else ((F_X6_refused (-1 : Int32)).1, (F_X6_refused (-1 : Int32)).2, sh))
set_option maxHeartbeats 4000000 in
set_option maxRecDepth 100000 in
theorem c_X6_put (l : Launch) (D : va_G) (cI cO : ClassId) (h6 : Nat) (q : Nat → Nat) (fl : Int32) (pn : Int32) (sl : Int32) (dr : Int32) (yn : Int32) (ra : Int32) (rp : Int32) (rs : Int32) (rd : Int32) (ry : Int32) (pk : Int32) (yk : Int32) (rg : Int32) (tc : Int32) (ss : Nat → Int32) (sa : Nat → Int32) (sh : Nat → Int32) (k : Int32) (i : Int32) (v : Int32) (hss : ∀ i, i < 4 → (ss i).toInt ≤ 60) : zW l yX6_put wsX6_put ({ frames := 2, cells := 0, slots := 0, locals := 47 } : Room) D cI cO [.ref h6, .int k, .int i, .int v] [(h6, .inr (6, fM fl pn sl dr yn ra rp rs rd ry pk yk rg tc q)), ((q 25), .inl (cI, 4, .inl ss)), ((q 26), .inl (cI, 4, .inl sa)), ((q 27), .inl (cI, 240, .inl sh))] [(h6, .inr (6, fM ((F_X6_put ss sa sh k i v).2.1) pn sl dr yn ra rp rs rd ry pk yk rg tc q)), ((q 25), .inl (cI, 4, .inl ss)), ((q 26), .inl (cI, 4, .inl sa)), ((q 27), .inl (cI, 240, .inl ((F_X6_put ss sa sh k i v).2.2)))] (some (.int ((F_X6_put ss sa sh k i v).1))) := by
  refine zW_of (nL := 4) (cc := cX6_put) (ret := some .int) (lv := [(0, .ref h6), (1, .int k), (2, .int i), (3, .int v)]) (by decide +kernel) rfl (Nat.le_of_ble_eq_true rfl) rfl (fun p e s m args below meth c C hr hlk => ?_)
  have hf := F_X6_put.eq_1 ss sa sh k i v
  refine z_iload_n C dX6_put_0 rfl 1 rfl ?_
  refine z_cSR (As := [.int k]) C (c_X6_noSheet l D cI cO k) (va_cwS 1 C.2.2.2.2.1 gX6_put_X6_noSheet rfl rfl rfl hdS_X6_noSheet ⟨Nat.le_of_ble_eq_true rfl, Nat.le_of_ble_eq_true rfl⟩) [] rfl rfl rfl _ rfl (Nat.le_of_ble_eq_true rfl) ⟨Nat.zero_le _, Nat.zero_le _⟩ dX6_put_1 ?_
  generalize hu1 : (F_X6_noSheet k) = u1 at hf ⊢
  refine z_if_eq (tgt := 13) C dX6_put_4 (by decide) (fun c4 => ?_) (fun c4 => ?_)
  · rw [if_pos c4] at hf
    have b4 := c4
    rw [← hu1] at c4
    refine z_aload_n C dX6_put_13 rfl 0 rfl ?_
    refine z_iload_n C dX6_put_14 rfl 1 rfl ?_
    refine z_iload_n C dX6_put_15 rfl 2 rfl ?_
    refine z_cVR (As := [.int k, .int i]) C (c_X6_noCell l D cI cO h6 q fl pn sl dr yn ra rp rs rd ry pk yk rg tc ss k i (by subst hu1; exact (noSheet_k c4))) (cwV 2 C.2.2.2.2.1 gX6_put_X6_noCell rfl rfl rfl hdV_X6_noCell ⟨Nat.le_of_ble_eq_true rfl, Nat.le_of_ble_eq_true rfl⟩) [0, 1] rfl rfl 0 rfl rfl rfl _ rfl (Nat.le_of_ble_eq_true rfl) ⟨Nat.zero_le _, Nat.zero_le _⟩ dX6_put_16 ?_
    generalize hu16 : (F_X6_noCell ss k i) = u16 at hf ⊢
    refine z_if_le (tgt := 33) C dX6_put_19 (by decide) (fun c19 => ?_) (fun c19 => ?_)
    · rw [if_pos c19] at hf
      have b19 := c19
      rw [← hu16] at c19
      obtain ⟨k0, hk0, hk1⟩ := noSheet_in c4
      obtain ⟨b0, hb0, hb1⟩ := noCell_in hss hk1 hk0 c19
      refine z_aload_n C dX6_put_33 rfl 0 rfl ?_
      refine z_get (T := TX6) (v := .ref (q 27)) C i_X6_put_6 0 rfl rfl 27 (by decide) m_X6_put_1 rfl rfl dX6_put_34 ?_
      refine z_bipush (v := (60 : Int32)) C dX6_put_37 (by decide) ?_
      refine z_iload_n C dX6_put_39 rfl 1 rfl ?_
      refine z_imul C dX6_put_40 ?_
      refine z_iload_n C dX6_put_41 rfl 2 rfl ?_
      refine z_iadd C dX6_put_42 ?_
      refine z_aload_n C dX6_put_43 rfl 0 rfl ?_
      refine z_get (T := TX6) (v := .ref (q 26)) C i_X6_put_6 0 rfl rfl 26 (by decide) m_X6_put_2 rfl rfl dX6_put_44 ?_
      refine z_iload_n C dX6_put_47 rfl 1 rfl ?_
      refine z_ald C 2 rfl (by subst hu16 hu1; exact (noSheet_k c4)) dX6_put_48 ?_
      refine z_if_ne (tgt := 57) C dX6_put_49 (by decide) (fun c49 => ?_) (fun c49 => ?_)
      · rw [if_neg c49] at hf
        refine z_aload_n C dX6_put_57 rfl 0 rfl ?_
        refine z_get (T := TX6) (v := .ref (q 26)) C i_X6_put_6 0 rfl rfl 26 (by decide) m_X6_put_2 rfl rfl dX6_put_58 ?_
        refine z_iload_n C dX6_put_61 rfl 1 rfl ?_
        refine z_ald C 2 rfl (by subst hu16 hu1; exact (noSheet_k c4)) dX6_put_62 ?_
        refine z_iconst (v := (1 : Int32)) C dX6_put_63 (by decide) ?_
        refine z_icmp_ne (tgt := 72) C dX6_put_64 (by decide) (fun c64 => ?_) (fun c64 => ?_)
        · rw [if_neg c64] at hf
          refine z_iload_n C dX6_put_72 rfl 3 rfl ?_
          refine z_ast C [(h6, .inr (6, fM fl pn sl dr yn ra rp rs rd ry pk yk rg tc q)), ((q 25), .inl (cI, 4, .inl ss)), ((q 26), .inl (cI, 4, .inl sa)), ((q 27), .inl (cI, 240, .inl (upd sh (((60 : Int32) * k) + i).toNatClampNeg v)))] 3 rfl (by subst hu16 hu1; exact (sheet_ix hk1 hk0 hb1 hb0)) dX6_put_73 rfl ?_
          refine z_aload_n C dX6_put_74 rfl 0 rfl ?_
          refine z_iconst (v := (1 : Int32)) C dX6_put_75 (by decide) ?_
          refine z_cVW (As := [.int (1 : Int32)]) C (c_X6_refused l D cI cO h6 q fl pn sl dr yn ra rp rs rd ry pk yk rg tc (1 : Int32)) (cwV 1 C.2.2.2.2.1 gX6_put_X6_refused rfl rfl rfl hdV_X6_refused ⟨Nat.le_of_ble_eq_true rfl, Nat.le_of_ble_eq_true rfl⟩) [(h6, .inr (6, fM ((F_X6_refused (1 : Int32)).2) pn sl dr yn ra rp rs rd ry pk yk rg tc q)), ((q 25), .inl (cI, 4, .inl ss)), ((q 26), .inl (cI, 4, .inl sa)), ((q 27), .inl (cI, 240, .inl (upd sh (((60 : Int32) * k) + i).toNatClampNeg v)))] [0] rfl rfl (Eq.refl [h6]) rfl 0 rfl rfl rfl _ rfl (Nat.le_of_ble_eq_true rfl) ⟨Nat.zero_le _, Nat.zero_le _⟩ dX6_put_76 ?_
          generalize hu76 : (F_X6_refused (1 : Int32)) = u76 at hf ⊢
          exact z_iretW C hr hlk (by rw [hf]) (by rw [hf]) dX6_put_79
        · rw [if_pos c64] at hf
          refine z_iload_n C dX6_put_67 rfl 3 rfl ?_
          refine z_i2s C dX6_put_68 ?_
          refine z_goto (tgt := 73) C dX6_put_69 (by decide) ?_
          refine z_ast C [(h6, .inr (6, fM fl pn sl dr yn ra rp rs rd ry pk yk rg tc q)), ((q 25), .inl (cI, 4, .inl ss)), ((q 26), .inl (cI, 4, .inl sa)), ((q 27), .inl (cI, 240, .inl (upd sh (((60 : Int32) * k) + i).toNatClampNeg v.toInt16.toInt32)))] 3 rfl (by subst hu16 hu1; exact (sheet_ix hk1 hk0 hb1 hb0)) dX6_put_73 rfl ?_
          refine z_aload_n C dX6_put_74 rfl 0 rfl ?_
          refine z_iconst (v := (1 : Int32)) C dX6_put_75 (by decide) ?_
          refine z_cVW (As := [.int (1 : Int32)]) C (c_X6_refused l D cI cO h6 q fl pn sl dr yn ra rp rs rd ry pk yk rg tc (1 : Int32)) (cwV 1 C.2.2.2.2.1 gX6_put_X6_refused rfl rfl rfl hdV_X6_refused ⟨Nat.le_of_ble_eq_true rfl, Nat.le_of_ble_eq_true rfl⟩) [(h6, .inr (6, fM ((F_X6_refused (1 : Int32)).2) pn sl dr yn ra rp rs rd ry pk yk rg tc q)), ((q 25), .inl (cI, 4, .inl ss)), ((q 26), .inl (cI, 4, .inl sa)), ((q 27), .inl (cI, 240, .inl (upd sh (((60 : Int32) * k) + i).toNatClampNeg v.toInt16.toInt32)))] [0] rfl rfl (Eq.refl [h6]) rfl 0 rfl rfl rfl _ rfl (Nat.le_of_ble_eq_true rfl) ⟨Nat.zero_le _, Nat.zero_le _⟩ dX6_put_76 ?_
          generalize hu76 : (F_X6_refused (1 : Int32)) = u76 at hf ⊢
          exact z_iretW C hr hlk (by rw [hf]) (by rw [hf]) dX6_put_79
      · rw [if_pos c49] at hf
        refine z_iload_n C dX6_put_52 rfl 3 rfl ?_
        refine z_i2b C dX6_put_53 ?_
        refine z_goto (tgt := 73) C dX6_put_54 (by decide) ?_
        refine z_ast C [(h6, .inr (6, fM fl pn sl dr yn ra rp rs rd ry pk yk rg tc q)), ((q 25), .inl (cI, 4, .inl ss)), ((q 26), .inl (cI, 4, .inl sa)), ((q 27), .inl (cI, 240, .inl (upd sh (((60 : Int32) * k) + i).toNatClampNeg v.toInt8.toInt32)))] 3 rfl (by subst hu16 hu1; exact (sheet_ix hk1 hk0 hb1 hb0)) dX6_put_73 rfl ?_
        refine z_aload_n C dX6_put_74 rfl 0 rfl ?_
        refine z_iconst (v := (1 : Int32)) C dX6_put_75 (by decide) ?_
        refine z_cVW (As := [.int (1 : Int32)]) C (c_X6_refused l D cI cO h6 q fl pn sl dr yn ra rp rs rd ry pk yk rg tc (1 : Int32)) (cwV 1 C.2.2.2.2.1 gX6_put_X6_refused rfl rfl rfl hdV_X6_refused ⟨Nat.le_of_ble_eq_true rfl, Nat.le_of_ble_eq_true rfl⟩) [(h6, .inr (6, fM ((F_X6_refused (1 : Int32)).2) pn sl dr yn ra rp rs rd ry pk yk rg tc q)), ((q 25), .inl (cI, 4, .inl ss)), ((q 26), .inl (cI, 4, .inl sa)), ((q 27), .inl (cI, 240, .inl (upd sh (((60 : Int32) * k) + i).toNatClampNeg v.toInt8.toInt32)))] [0] rfl rfl (Eq.refl [h6]) rfl 0 rfl rfl rfl _ rfl (Nat.le_of_ble_eq_true rfl) ⟨Nat.zero_le _, Nat.zero_le _⟩ dX6_put_76 ?_
        generalize hu76 : (F_X6_refused (1 : Int32)) = u76 at hf ⊢
        exact z_iretW C hr hlk (by rw [hf]) (by rw [hf]) dX6_put_79
    · rw [if_neg c19] at hf
      have b19 := c19
      rw [← hu16] at c19
      refine z_aload_n C dX6_put_22 rfl 0 rfl ?_
      refine z_aload_n C dX6_put_23 rfl 0 rfl ?_
      refine z_iload_n C dX6_put_24 rfl 1 rfl ?_
      refine z_iload_n C dX6_put_25 rfl 2 rfl ?_
      refine z_cVR (As := [.int k, .int i]) C (c_X6_noCell l D cI cO h6 q fl pn sl dr yn ra rp rs rd ry pk yk rg tc ss k i (by subst hu16 hu1; exact (noSheet_k c4))) (cwV 2 C.2.2.2.2.1 gX6_put_X6_noCell rfl rfl rfl hdV_X6_noCell ⟨Nat.le_of_ble_eq_true rfl, Nat.le_of_ble_eq_true rfl⟩) [0, 1] rfl rfl 0 rfl rfl rfl _ rfl (Nat.le_of_ble_eq_true rfl) ⟨Nat.zero_le _, Nat.zero_le _⟩ dX6_put_26 ?_
      rw [hu16]
      refine z_cVW (As := [.int u16]) C (c_X6_failed l D cI cO h6 q fl pn sl dr yn ra rp rs rd ry pk yk rg tc u16) (cwV 1 C.2.2.2.2.1 gX6_put_X6_failed rfl rfl rfl hdV_X6_failed ⟨Nat.le_of_ble_eq_true rfl, Nat.le_of_ble_eq_true rfl⟩) [(h6, .inr (6, fM ((F_X6_failed u16).2) pn sl dr yn ra rp rs rd ry pk yk rg tc q)), ((q 25), .inl (cI, 4, .inl ss)), ((q 26), .inl (cI, 4, .inl sa)), ((q 27), .inl (cI, 240, .inl sh))] [0] rfl rfl (Eq.refl [h6]) rfl 0 rfl rfl rfl _ rfl (Nat.le_of_ble_eq_true rfl) ⟨Nat.zero_le _, Nat.zero_le _⟩ dX6_put_29 ?_
      generalize hu29 : (F_X6_failed u16) = u29 at hf ⊢
      exact z_iretW C hr hlk (by rw [hf]) (by rw [hf]) dX6_put_32
  · rw [if_neg c4] at hf
    have b4 := c4
    rw [← hu1] at c4
    refine z_aload_n C dX6_put_7 rfl 0 rfl ?_
    refine z_iconst (v := (-1 : Int32)) C dX6_put_8 (by decide) ?_
    refine z_cVW (As := [.int (-1 : Int32)]) C (c_X6_refused l D cI cO h6 q fl pn sl dr yn ra rp rs rd ry pk yk rg tc (-1 : Int32)) (cwV 1 C.2.2.2.2.1 gX6_put_X6_refused rfl rfl rfl hdV_X6_refused ⟨Nat.le_of_ble_eq_true rfl, Nat.le_of_ble_eq_true rfl⟩) [(h6, .inr (6, fM ((F_X6_refused (-1 : Int32)).2) pn sl dr yn ra rp rs rd ry pk yk rg tc q)), ((q 25), .inl (cI, 4, .inl ss)), ((q 26), .inl (cI, 4, .inl sa)), ((q 27), .inl (cI, 240, .inl sh))] [0] rfl rfl (Eq.refl [h6]) rfl 0 rfl rfl rfl _ rfl (Nat.le_of_ble_eq_true rfl) ⟨Nat.zero_le _, Nat.zero_le _⟩ dX6_put_9 ?_
    generalize hu9 : (F_X6_refused (-1 : Int32)) = u9 at hf ⊢
    exact z_iretW C hr hlk (by rw [hf]) (by rw [hf]) dX6_put_12
-- X6_cell
theorem i_X6_cell_6 : ∀ w ∈ u_ws RX6 TX6 30, w ∈ wsX6_cell := by decide +kernel
theorem m_X6_cell_1 : Cond.fieldLink RX6 60 "WishPinsModel" "fault" "I" ∈ wsX6_cell := List.mem_of_getElem? (i := 1) rfl
theorem m_X6_cell_2 : Cond.constantLong RX6 117 (2) ∈ wsX6_cell := List.mem_of_getElem? (i := 2) rfl
theorem m_X6_cell_3 : Cond.fieldLink RX6 46 "WishPinsModel" "sheetSize" "[I" ∈ wsX6_cell := List.mem_of_getElem? (i := 3) rfl
theorem m_X6_cell_5 : Cond.fieldLink RX6 52 "WishPinsModel" "sheet" "[I" ∈ wsX6_cell := List.mem_of_getElem? (i := 5) rfl
theorem m_X6_cell_4 : Cond.fieldLink RX6 49 "WishPinsModel" "sheetLane" "[I" ∈ wsX6_cell := List.mem_of_getElem? (i := 4) rfl
def F_X6_cell (ss : Nat → Int32) (sa : Nat → Int32) (sh : Nat → Int32) (k : Int32) (i : Int32) (la : Int32) : Int64 × Int32 :=
  (if (F_X6_noSheet k) = 0 then (if (F_X6_in la.toInt64 (0 : Int64) (2 : Int64)) = 0 then (F_X6_lost, (0 : Int32)) else (if (ss k.toNatClampNeg) < 0 then (if (F_X6_noCell ss k i) ≤ 0 then ((sh (((60 : Int32) * k) + i).toNatClampNeg).toInt64, (0 : Int32)) else ((F_X6_failedLong (F_X6_noCell ss k i)).1, (F_X6_failedLong (F_X6_noCell ss k i)).2)) else (if (sa k.toNatClampNeg) = la then (if (F_X6_noCell ss k i) ≤ 0 then ((sh (((60 : Int32) * k) + i).toNatClampNeg).toInt64, (0 : Int32)) else ((F_X6_failedLong (F_X6_noCell ss k i)).1, (F_X6_failedLong (F_X6_noCell ss k i)).2)) else ((F_X6_failedLong (2 : Int32)).1, (F_X6_failedLong (2 : Int32)).2)))) else (F_X6_lost, (0 : Int32)))
set_option maxHeartbeats 4000000 in
set_option maxRecDepth 100000 in
theorem c_X6_cell (l : Launch) (D : va_G) (cI cO : ClassId) (h6 : Nat) (q : Nat → Nat) (fl : Int32) (pn : Int32) (sl : Int32) (dr : Int32) (yn : Int32) (ra : Int32) (rp : Int32) (rs : Int32) (rd : Int32) (ry : Int32) (pk : Int32) (yk : Int32) (rg : Int32) (tc : Int32) (ss : Nat → Int32) (sa : Nat → Int32) (sh : Nat → Int32) (k : Int32) (i : Int32) (la : Int32) (hss : ∀ i, i < 4 → (ss i).toInt ≤ 60) : zW l yX6_cell wsX6_cell ({ frames := 2, cells := 0, slots := 0, locals := 47 } : Room) D cI cO [.ref h6, .int k, .int i, .int la] [(h6, .inr (6, fM fl pn sl dr yn ra rp rs rd ry pk yk rg tc q)), ((q 25), .inl (cI, 4, .inl ss)), ((q 26), .inl (cI, 4, .inl sa)), ((q 27), .inl (cI, 240, .inl sh))] [(h6, .inr (6, fM ((F_X6_cell ss sa sh k i la).2) pn sl dr yn ra rp rs rd ry pk yk rg tc q)), ((q 25), .inl (cI, 4, .inl ss)), ((q 26), .inl (cI, 4, .inl sa)), ((q 27), .inl (cI, 240, .inl sh))] (some (.long ((F_X6_cell ss sa sh k i la).1))) := by
  refine zW_of (nL := 4) (cc := cX6_cell) (ret := some .long) (lv := [(0, .ref h6), (1, .int k), (2, .int i), (3, .int la)]) (by decide +kernel) rfl (Nat.le_of_ble_eq_true rfl) rfl (fun p e s m args below meth c C hr hlk => ?_)
  have hf := F_X6_cell.eq_1 ss sa sh k i la
  refine z_aload_n C dX6_cell_0 rfl 0 rfl ?_
  refine z_iconst (v := (0 : Int32)) C dX6_cell_1 (by decide) ?_
  refine z_put (T := TX6) (ty := .int) C [(h6, .inr (6, fM (0 : Int32) pn sl dr yn ra rp rs rd ry pk yk rg tc q)), ((q 25), .inl (cI, 4, .inl ss)), ((q 26), .inl (cI, 4, .inl sa)), ((q 27), .inl (cI, 240, .inl sh))] i_X6_cell_6 tyX6 tyX6_ok nmX6 0 rfl rfl 0 (by decide) m_X6_cell_1 rfl rfl (by decide +kernel) rfl rfl (Nat.le_of_ble_eq_true rfl) dX6_cell_2 rfl ?_
  refine z_iload_n C dX6_cell_5 rfl 1 rfl ?_
  refine z_cSR (As := [.int k]) C (c_X6_noSheet l D cI cO k) (va_cwS 1 C.2.2.2.2.1 gX6_cell_X6_noSheet rfl rfl rfl hdS_X6_noSheet ⟨Nat.le_of_ble_eq_true rfl, Nat.le_of_ble_eq_true rfl⟩) [] rfl rfl rfl _ rfl (Nat.le_of_ble_eq_true rfl) ⟨Nat.zero_le _, Nat.zero_le _⟩ dX6_cell_6 ?_
  generalize hu6 : (F_X6_noSheet k) = u6 at hf ⊢
  refine z_if_ne (tgt := 24) C dX6_cell_9 (by decide) (fun c9 => ?_) (fun c9 => ?_)
  · rw [if_neg c9] at hf
    have b9 := c9
    rw [← hu6] at c9
    refine z_cSR (As := []) C (c_X6_lost l D cI cO) (va_cwS 0 C.2.2.2.2.1 gX6_cell_X6_lost rfl rfl rfl hdS_X6_lost ⟨Nat.le_of_ble_eq_true rfl, Nat.le_of_ble_eq_true rfl⟩) [] rfl rfl rfl _ rfl (Nat.le_of_ble_eq_true rfl) ⟨Nat.zero_le _, Nat.zero_le _⟩ dX6_cell_24 ?_
    generalize hu24 : F_X6_lost = u24 at hf ⊢
    exact z_lretW C hr hlk (by rw [hf]) (by rw [hf]) dX6_cell_27
  · rw [if_pos c9] at hf
    have b9 := c9
    rw [← hu6] at c9
    refine z_iload_n C dX6_cell_12 rfl 3 rfl ?_
    refine z_i2l C dX6_cell_13 ?_
    refine z_lconst (v := (0 : Int64)) C dX6_cell_14 (by decide) ?_
    refine z_ldc2 C m_X6_cell_2 dX6_cell_15 ?_
    refine z_cSR (As := [.long la.toInt64, .long (0 : Int64), .long (2 : Int64)]) C (c_X6_in l D cI cO la.toInt64 (0 : Int64) (2 : Int64)) (va_cwS 3 C.2.2.2.2.1 gX6_cell_X6_in rfl rfl rfl hdS_X6_in ⟨Nat.le_of_ble_eq_true rfl, Nat.le_of_ble_eq_true rfl⟩) [] rfl rfl rfl _ rfl (Nat.le_of_ble_eq_true rfl) ⟨Nat.zero_le _, Nat.zero_le _⟩ dX6_cell_18 ?_
    generalize hu18 : (F_X6_in la.toInt64 (0 : Int64) (2 : Int64)) = u18 at hf ⊢
    refine z_if_ne (tgt := 28) C dX6_cell_21 (by decide) (fun c21 => ?_) (fun c21 => ?_)
    · rw [if_neg c21] at hf
      have b21 := c21
      rw [← hu18] at c21
      refine z_aload_n C dX6_cell_28 rfl 0 rfl ?_
      refine z_get (T := TX6) (v := .ref (q 25)) C i_X6_cell_6 0 rfl rfl 25 (by decide) m_X6_cell_3 rfl rfl dX6_cell_29 ?_
      refine z_iload_n C dX6_cell_32 rfl 1 rfl ?_
      refine z_ald C 1 rfl (by subst hu18 hu6; exact (noSheet_k c9)) dX6_cell_33 ?_
      refine z_if_lt (tgt := 53) C dX6_cell_34 (by decide) (fun c34 => ?_) (fun c34 => ?_)
      · rw [if_pos c34] at hf
        refine z_aload_n C dX6_cell_53 rfl 0 rfl ?_
        refine z_iload_n C dX6_cell_54 rfl 1 rfl ?_
        refine z_iload_n C dX6_cell_55 rfl 2 rfl ?_
        refine z_cVR (As := [.int k, .int i]) C (c_X6_noCell l D cI cO h6 q (0 : Int32) pn sl dr yn ra rp rs rd ry pk yk rg tc ss k i (by subst hu18 hu6; exact (noSheet_k c9))) (cwV 2 C.2.2.2.2.1 gX6_cell_X6_noCell rfl rfl rfl hdV_X6_noCell ⟨Nat.le_of_ble_eq_true rfl, Nat.le_of_ble_eq_true rfl⟩) [0, 1] rfl rfl 0 rfl rfl rfl _ rfl (Nat.le_of_ble_eq_true rfl) ⟨Nat.zero_le _, Nat.zero_le _⟩ dX6_cell_56 ?_
        generalize hu56 : (F_X6_noCell ss k i) = u56 at hf ⊢
        refine z_if_le (tgt := 75) C dX6_cell_59 (by decide) (fun c59 => ?_) (fun c59 => ?_)
        · rw [if_pos c59] at hf
          have b59 := c59
          rw [← hu56] at c59
          obtain ⟨k0, hk0, hk1⟩ := noSheet_in c9
          obtain ⟨b0, hb0, hb1⟩ := noCell_in hss hk1 hk0 c59
          refine z_aload_n C dX6_cell_75 rfl 0 rfl ?_
          refine z_get (T := TX6) (v := .ref (q 27)) C i_X6_cell_6 0 rfl rfl 27 (by decide) m_X6_cell_5 rfl rfl dX6_cell_76 ?_
          refine z_bipush (v := (60 : Int32)) C dX6_cell_79 (by decide) ?_
          refine z_iload_n C dX6_cell_81 rfl 1 rfl ?_
          refine z_imul C dX6_cell_82 ?_
          refine z_iload_n C dX6_cell_83 rfl 2 rfl ?_
          refine z_iadd C dX6_cell_84 ?_
          refine z_ald C 3 rfl (by subst hu56 hu18 hu6; exact (sheet_ix hk1 hk0 hb1 hb0)) dX6_cell_85 ?_
          refine z_i2l C dX6_cell_86 ?_
          exact z_lretW C hr hlk (by rw [hf]) (by rw [hf]) dX6_cell_87
        · rw [if_neg c59] at hf
          have b59 := c59
          rw [← hu56] at c59
          refine z_aload_n C dX6_cell_62 rfl 0 rfl ?_
          refine z_aload_n C dX6_cell_63 rfl 0 rfl ?_
          refine z_iload_n C dX6_cell_64 rfl 1 rfl ?_
          refine z_iload_n C dX6_cell_65 rfl 2 rfl ?_
          refine z_cVR (As := [.int k, .int i]) C (c_X6_noCell l D cI cO h6 q (0 : Int32) pn sl dr yn ra rp rs rd ry pk yk rg tc ss k i (by subst hu56 hu18 hu6; exact (noSheet_k c9))) (cwV 2 C.2.2.2.2.1 gX6_cell_X6_noCell rfl rfl rfl hdV_X6_noCell ⟨Nat.le_of_ble_eq_true rfl, Nat.le_of_ble_eq_true rfl⟩) [0, 1] rfl rfl 0 rfl rfl rfl _ rfl (Nat.le_of_ble_eq_true rfl) ⟨Nat.zero_le _, Nat.zero_le _⟩ dX6_cell_66 ?_
          rw [hu56]
          refine z_cVW (As := [.int u56]) C (c_X6_failedLong l D cI cO h6 q (0 : Int32) pn sl dr yn ra rp rs rd ry pk yk rg tc u56) (cwV 1 C.2.2.2.2.1 gX6_cell_X6_failedLong rfl rfl rfl hdV_X6_failedLong ⟨Nat.le_of_ble_eq_true rfl, Nat.le_of_ble_eq_true rfl⟩) [(h6, .inr (6, fM ((F_X6_failedLong u56).2) pn sl dr yn ra rp rs rd ry pk yk rg tc q)), ((q 25), .inl (cI, 4, .inl ss)), ((q 26), .inl (cI, 4, .inl sa)), ((q 27), .inl (cI, 240, .inl sh))] [0] rfl rfl (Eq.refl [h6]) rfl 0 rfl rfl rfl _ rfl (Nat.le_of_ble_eq_true rfl) ⟨Nat.zero_le _, Nat.zero_le _⟩ dX6_cell_69 ?_
          generalize hu69 : (F_X6_failedLong u56) = u69 at hf ⊢
          refine z_goto (tgt := 87) C dX6_cell_72 (by decide) ?_
          exact z_lretW C hr hlk (by rw [hf]) (by rw [hf]) dX6_cell_87
      · rw [if_neg c34] at hf
        refine z_aload_n C dX6_cell_37 rfl 0 rfl ?_
        refine z_get (T := TX6) (v := .ref (q 26)) C i_X6_cell_6 0 rfl rfl 26 (by decide) m_X6_cell_4 rfl rfl dX6_cell_38 ?_
        refine z_iload_n C dX6_cell_41 rfl 1 rfl ?_
        refine z_ald C 2 rfl (by subst hu18 hu6; exact (noSheet_k c9)) dX6_cell_42 ?_
        refine z_iload_n C dX6_cell_43 rfl 3 rfl ?_
        refine z_icmp_eq (tgt := 53) C dX6_cell_44 (by decide) (fun c44 => ?_) (fun c44 => ?_)
        · rw [if_pos c44] at hf
          refine z_aload_n C dX6_cell_53 rfl 0 rfl ?_
          refine z_iload_n C dX6_cell_54 rfl 1 rfl ?_
          refine z_iload_n C dX6_cell_55 rfl 2 rfl ?_
          refine z_cVR (As := [.int k, .int i]) C (c_X6_noCell l D cI cO h6 q (0 : Int32) pn sl dr yn ra rp rs rd ry pk yk rg tc ss k i (by subst hu18 hu6; exact (noSheet_k c9))) (cwV 2 C.2.2.2.2.1 gX6_cell_X6_noCell rfl rfl rfl hdV_X6_noCell ⟨Nat.le_of_ble_eq_true rfl, Nat.le_of_ble_eq_true rfl⟩) [0, 1] rfl rfl 0 rfl rfl rfl _ rfl (Nat.le_of_ble_eq_true rfl) ⟨Nat.zero_le _, Nat.zero_le _⟩ dX6_cell_56 ?_
          generalize hu56 : (F_X6_noCell ss k i) = u56 at hf ⊢
          refine z_if_le (tgt := 75) C dX6_cell_59 (by decide) (fun c59 => ?_) (fun c59 => ?_)
          · rw [if_pos c59] at hf
            have b59 := c59
            rw [← hu56] at c59
            obtain ⟨k0, hk0, hk1⟩ := noSheet_in c9
            obtain ⟨b0, hb0, hb1⟩ := noCell_in hss hk1 hk0 c59
            refine z_aload_n C dX6_cell_75 rfl 0 rfl ?_
            refine z_get (T := TX6) (v := .ref (q 27)) C i_X6_cell_6 0 rfl rfl 27 (by decide) m_X6_cell_5 rfl rfl dX6_cell_76 ?_
            refine z_bipush (v := (60 : Int32)) C dX6_cell_79 (by decide) ?_
            refine z_iload_n C dX6_cell_81 rfl 1 rfl ?_
            refine z_imul C dX6_cell_82 ?_
            refine z_iload_n C dX6_cell_83 rfl 2 rfl ?_
            refine z_iadd C dX6_cell_84 ?_
            refine z_ald C 3 rfl (by subst hu56 hu18 hu6; exact (sheet_ix hk1 hk0 hb1 hb0)) dX6_cell_85 ?_
            refine z_i2l C dX6_cell_86 ?_
            exact z_lretW C hr hlk (by rw [hf]) (by rw [hf]) dX6_cell_87
          · rw [if_neg c59] at hf
            have b59 := c59
            rw [← hu56] at c59
            refine z_aload_n C dX6_cell_62 rfl 0 rfl ?_
            refine z_aload_n C dX6_cell_63 rfl 0 rfl ?_
            refine z_iload_n C dX6_cell_64 rfl 1 rfl ?_
            refine z_iload_n C dX6_cell_65 rfl 2 rfl ?_
            refine z_cVR (As := [.int k, .int i]) C (c_X6_noCell l D cI cO h6 q (0 : Int32) pn sl dr yn ra rp rs rd ry pk yk rg tc ss k i (by subst hu56 hu18 hu6; exact (noSheet_k c9))) (cwV 2 C.2.2.2.2.1 gX6_cell_X6_noCell rfl rfl rfl hdV_X6_noCell ⟨Nat.le_of_ble_eq_true rfl, Nat.le_of_ble_eq_true rfl⟩) [0, 1] rfl rfl 0 rfl rfl rfl _ rfl (Nat.le_of_ble_eq_true rfl) ⟨Nat.zero_le _, Nat.zero_le _⟩ dX6_cell_66 ?_
            rw [hu56]
            refine z_cVW (As := [.int u56]) C (c_X6_failedLong l D cI cO h6 q (0 : Int32) pn sl dr yn ra rp rs rd ry pk yk rg tc u56) (cwV 1 C.2.2.2.2.1 gX6_cell_X6_failedLong rfl rfl rfl hdV_X6_failedLong ⟨Nat.le_of_ble_eq_true rfl, Nat.le_of_ble_eq_true rfl⟩) [(h6, .inr (6, fM ((F_X6_failedLong u56).2) pn sl dr yn ra rp rs rd ry pk yk rg tc q)), ((q 25), .inl (cI, 4, .inl ss)), ((q 26), .inl (cI, 4, .inl sa)), ((q 27), .inl (cI, 240, .inl sh))] [0] rfl rfl (Eq.refl [h6]) rfl 0 rfl rfl rfl _ rfl (Nat.le_of_ble_eq_true rfl) ⟨Nat.zero_le _, Nat.zero_le _⟩ dX6_cell_69 ?_
            generalize hu69 : (F_X6_failedLong u56) = u69 at hf ⊢
            refine z_goto (tgt := 87) C dX6_cell_72 (by decide) ?_
            exact z_lretW C hr hlk (by rw [hf]) (by rw [hf]) dX6_cell_87
        · rw [if_neg c44] at hf
          refine z_aload_n C dX6_cell_47 rfl 0 rfl ?_
          refine z_iconst (v := (2 : Int32)) C dX6_cell_48 (by decide) ?_
          refine z_cVW (As := [.int (2 : Int32)]) C (c_X6_failedLong l D cI cO h6 q (0 : Int32) pn sl dr yn ra rp rs rd ry pk yk rg tc (2 : Int32)) (cwV 1 C.2.2.2.2.1 gX6_cell_X6_failedLong rfl rfl rfl hdV_X6_failedLong ⟨Nat.le_of_ble_eq_true rfl, Nat.le_of_ble_eq_true rfl⟩) [(h6, .inr (6, fM ((F_X6_failedLong (2 : Int32)).2) pn sl dr yn ra rp rs rd ry pk yk rg tc q)), ((q 25), .inl (cI, 4, .inl ss)), ((q 26), .inl (cI, 4, .inl sa)), ((q 27), .inl (cI, 240, .inl sh))] [0] rfl rfl (Eq.refl [h6]) rfl 0 rfl rfl rfl _ rfl (Nat.le_of_ble_eq_true rfl) ⟨Nat.zero_le _, Nat.zero_le _⟩ dX6_cell_49 ?_
          generalize hu49 : (F_X6_failedLong (2 : Int32)) = u49 at hf ⊢
          exact z_lretW C hr hlk (by rw [hf]) (by rw [hf]) dX6_cell_52
    · rw [if_pos c21] at hf
      have b21 := c21
      rw [← hu18] at c21
      refine z_cSR (As := []) C (c_X6_lost l D cI cO) (va_cwS 0 C.2.2.2.2.1 gX6_cell_X6_lost rfl rfl rfl hdS_X6_lost ⟨Nat.le_of_ble_eq_true rfl, Nat.le_of_ble_eq_true rfl⟩) [] rfl rfl rfl _ rfl (Nat.le_of_ble_eq_true rfl) ⟨Nat.zero_le _, Nat.zero_le _⟩ dX6_cell_24 ?_
      generalize hu24 : F_X6_lost = u24 at hf ⊢
      exact z_lretW C hr hlk (by rw [hf]) (by rw [hf]) dX6_cell_27
-- X6_copy
theorem i_X6_copy_6 : ∀ w ∈ u_ws RX6 TX6 30, w ∈ wsX6_copy := by decide +kernel
theorem m_X6_copy_1 : Cond.fieldLink RX6 46 "WishPinsModel" "sheetSize" "[I" ∈ wsX6_copy := List.mem_of_getElem? (i := 1) rfl
theorem m_X6_copy_2 : Cond.fieldLink RX6 49 "WishPinsModel" "sheetLane" "[I" ∈ wsX6_copy := List.mem_of_getElem? (i := 2) rfl
theorem m_X6_copy_4 : Cond.fieldLink RX6 52 "WishPinsModel" "sheet" "[I" ∈ wsX6_copy := List.mem_of_getElem? (i := 4) rfl
theorem m_X6_copy_3 : Cond.fieldLink RX6 55 "WishPinsModel" "hands" "[I" ∈ wsX6_copy := List.mem_of_getElem? (i := 3) rfl
def F_X6_copy_k144 (n : Int32) (hn_107 : Nat → Int32) (x6_144 : Int32) (sh_144 : Nat → Int32) : Int32 × Int32 × (Nat → Int32) × (Nat → Int32) :=
  ((F_X6_refused n).1, (F_X6_refused n).2, sh_144, hn_107)
def F_X6_copy_l144 (o : Int32) (j : Int32) (n : Int32) (hn_107 : Nat → Int32) (K_ : Int32 → (Nat → Int32) → Int32 × Int32 × (Nat → Int32) × (Nat → Int32)) : Nat → Int32 → (Nat → Int32) → Int32 × Int32 × (Nat → Int32) × (Nat → Int32)
  | 0, x6_144, sh_144 => K_ x6_144 sh_144
  | d144 + 1, x6_144, sh_144 => (if n ≤ x6_144 then (K_ x6_144 sh_144) else (F_X6_copy_l144 o j n hn_107 K_ d144 (x6_144 + (1 : Int32)) (upd sh_144 ((((60 : Int32) * o) + j) + x6_144).toNatClampNeg (hn_107 x6_144.toNatClampNeg))))
def F_X6_copy_k107 (sh : Nat → Int32) (o : Int32) (j : Int32) (n : Int32) (x6_107 : Int32) (hn_107 : Nat → Int32) : Int32 × Int32 × (Nat → Int32) × (Nat → Int32) :=
  (F_X6_copy_l144 o j n hn_107 (F_X6_copy_k144 n hn_107) 61 (0 : Int32) sh)
def F_X6_copy_l107 (sh : Nat → Int32) (k : Int32) (i : Int32) (n : Int32) (K_ : Int32 → (Nat → Int32) → Int32 × Int32 × (Nat → Int32) × (Nat → Int32)) : Nat → Int32 → (Nat → Int32) → Int32 × Int32 × (Nat → Int32) × (Nat → Int32)
  | 0, x6_107, hn_107 => K_ x6_107 hn_107
  | d107 + 1, x6_107, hn_107 => (if n ≤ x6_107 then (K_ x6_107 hn_107) else (F_X6_copy_l107 sh k i n K_ d107 (x6_107 + (1 : Int32)) (upd hn_107 x6_107.toNatClampNeg (sh ((((60 : Int32) * k) + i) + x6_107).toNatClampNeg))))
def F_X6_copy (ss : Nat → Int32) (sa : Nat → Int32) (sh : Nat → Int32) (hn : Nat → Int32) (k : Int32) (i : Int32) (o : Int32) (j : Int32) (n : Int32) : Int32 × Int32 × (Nat → Int32) × (Nat → Int32) :=
  (if (F_X6_noSheet k) = 0 then (if (F_X6_noSheet o) = 0 then (if (ss k.toNatClampNeg) < 0 then ((F_X6_failed (1 : Int32)).1, (F_X6_failed (1 : Int32)).2, sh, hn) else (if 0 ≤ (ss o.toNatClampNeg) then (if (sa k.toNatClampNeg) = (sa o.toNatClampNeg) then (if (F_X6_isBeyond i n.toInt64 (ss k.toNatClampNeg)) = 0 then (if (F_X6_isBeyond j n.toInt64 (ss o.toNatClampNeg)) = 0 then (F_X6_copy_l107 sh k i n (F_X6_copy_k107 sh o j n) 61 (0 : Int32) hn) else ((F_X6_failed (3 : Int32)).1, (F_X6_failed (3 : Int32)).2, sh, hn)) else ((F_X6_failed (3 : Int32)).1, (F_X6_failed (3 : Int32)).2, sh, hn)) else ((F_X6_failed (2 : Int32)).1, (F_X6_failed (2 : Int32)).2, sh, hn)) else ((F_X6_failed (1 : Int32)).1, (F_X6_failed (1 : Int32)).2, sh, hn))) else ((F_X6_refused (-1 : Int32)).1, (F_X6_refused (-1 : Int32)).2, sh, hn)) else ((F_X6_refused (-1 : Int32)).1, (F_X6_refused (-1 : Int32)).2, sh, hn))
set_option maxHeartbeats 4000000 in
set_option maxRecDepth 100000 in
theorem c_X6_copy (l : Launch) (D : va_G) (cI cO : ClassId) (h6 : Nat) (q : Nat → Nat) (fl : Int32) (pn : Int32) (sl : Int32) (dr : Int32) (yn : Int32) (ra : Int32) (rp : Int32) (rs : Int32) (rd : Int32) (ry : Int32) (pk : Int32) (yk : Int32) (rg : Int32) (tc : Int32) (ss : Nat → Int32) (sa : Nat → Int32) (sh : Nat → Int32) (hn : Nat → Int32) (k : Int32) (i : Int32) (o : Int32) (j : Int32) (n : Int32) (hss : ∀ i, i < 4 → (ss i).toInt ≤ 60) : zW l yX6_copy wsX6_copy ({ frames := 2, cells := 0, slots := 0, locals := 45 } : Room) D cI cO [.ref h6, .int k, .int i, .int o, .int j, .int n] [(h6, .inr (6, fM fl pn sl dr yn ra rp rs rd ry pk yk rg tc q)), ((q 25), .inl (cI, 4, .inl ss)), ((q 26), .inl (cI, 4, .inl sa)), ((q 27), .inl (cI, 240, .inl sh)), ((q 28), .inl (cI, 60, .inl hn))] [(h6, .inr (6, fM ((F_X6_copy ss sa sh hn k i o j n).2.1) pn sl dr yn ra rp rs rd ry pk yk rg tc q)), ((q 25), .inl (cI, 4, .inl ss)), ((q 26), .inl (cI, 4, .inl sa)), ((q 27), .inl (cI, 240, .inl ((F_X6_copy ss sa sh hn k i o j n).2.2.1))), ((q 28), .inl (cI, 60, .inl ((F_X6_copy ss sa sh hn k i o j n).2.2.2)))] (some (.int ((F_X6_copy ss sa sh hn k i o j n).1))) := by
  refine zW_of (nL := 7) (cc := cX6_copy) (ret := some .int) (lv := [(0, .ref h6), (1, .int k), (2, .int i), (3, .int o), (4, .int j), (5, .int n)]) (by decide +kernel) rfl (Nat.le_of_ble_eq_true rfl) rfl (fun p e s m args below meth c C hr hlk => ?_)
  have hf := F_X6_copy.eq_1 ss sa sh hn k i o j n
  refine z_iload_n C dX6_copy_0 rfl 1 rfl ?_
  refine z_cSR (As := [.int k]) C (c_X6_noSheet l D cI cO k) (va_cwS 1 C.2.2.2.2.1 gX6_copy_X6_noSheet rfl rfl rfl hdS_X6_noSheet ⟨Nat.le_of_ble_eq_true rfl, Nat.le_of_ble_eq_true rfl⟩) [] rfl rfl rfl _ rfl (Nat.le_of_ble_eq_true rfl) ⟨Nat.zero_le _, Nat.zero_le _⟩ dX6_copy_1 ?_
  generalize hu1 : (F_X6_noSheet k) = u1 at hf ⊢
  refine z_if_ne (tgt := 14) C dX6_copy_4 (by decide) (fun c4 => ?_) (fun c4 => ?_)
  · rw [if_neg c4] at hf
    have b4 := c4
    rw [← hu1] at c4
    refine z_aload_n C dX6_copy_14 rfl 0 rfl ?_
    refine z_iconst (v := (-1 : Int32)) C dX6_copy_15 (by decide) ?_
    refine z_cVW (As := [.int (-1 : Int32)]) C (c_X6_refused l D cI cO h6 q fl pn sl dr yn ra rp rs rd ry pk yk rg tc (-1 : Int32)) (cwV 1 C.2.2.2.2.1 gX6_copy_X6_refused rfl rfl rfl hdV_X6_refused ⟨Nat.le_of_ble_eq_true rfl, Nat.le_of_ble_eq_true rfl⟩) [(h6, .inr (6, fM ((F_X6_refused (-1 : Int32)).2) pn sl dr yn ra rp rs rd ry pk yk rg tc q)), ((q 25), .inl (cI, 4, .inl ss)), ((q 26), .inl (cI, 4, .inl sa)), ((q 27), .inl (cI, 240, .inl sh)), ((q 28), .inl (cI, 60, .inl hn))] [0] rfl rfl (Eq.refl [h6]) rfl 0 rfl rfl rfl _ rfl (Nat.le_of_ble_eq_true rfl) ⟨Nat.zero_le _, Nat.zero_le _⟩ dX6_copy_16 ?_
    generalize hu16 : (F_X6_refused (-1 : Int32)) = u16 at hf ⊢
    exact z_iretW C hr hlk (by rw [hf]) (by rw [hf]) dX6_copy_19
  · rw [if_pos c4] at hf
    have b4 := c4
    rw [← hu1] at c4
    refine z_iload_n C dX6_copy_7 rfl 3 rfl ?_
    refine z_cSR (As := [.int o]) C (c_X6_noSheet l D cI cO o) (va_cwS 1 C.2.2.2.2.1 gX6_copy_X6_noSheet rfl rfl rfl hdS_X6_noSheet ⟨Nat.le_of_ble_eq_true rfl, Nat.le_of_ble_eq_true rfl⟩) [] rfl rfl rfl _ rfl (Nat.le_of_ble_eq_true rfl) ⟨Nat.zero_le _, Nat.zero_le _⟩ dX6_copy_8 ?_
    generalize hu8 : (F_X6_noSheet o) = u8 at hf ⊢
    refine z_if_eq (tgt := 20) C dX6_copy_11 (by decide) (fun c11 => ?_) (fun c11 => ?_)
    · rw [if_pos c11] at hf
      have b11 := c11
      rw [← hu8] at c11
      refine z_aload_n C dX6_copy_20 rfl 0 rfl ?_
      refine z_get (T := TX6) (v := .ref (q 25)) C i_X6_copy_6 0 rfl rfl 25 (by decide) m_X6_copy_1 rfl rfl dX6_copy_21 ?_
      refine z_iload_n C dX6_copy_24 rfl 1 rfl ?_
      refine z_ald C 1 rfl (by subst hu8 hu1; exact (noSheet_k c4)) dX6_copy_25 ?_
      refine z_if_lt (tgt := 38) C dX6_copy_26 (by decide) (fun c26 => ?_) (fun c26 => ?_)
      · rw [if_pos c26] at hf
        refine z_aload_n C dX6_copy_38 rfl 0 rfl ?_
        refine z_iconst (v := (1 : Int32)) C dX6_copy_39 (by decide) ?_
        refine z_cVW (As := [.int (1 : Int32)]) C (c_X6_failed l D cI cO h6 q fl pn sl dr yn ra rp rs rd ry pk yk rg tc (1 : Int32)) (cwV 1 C.2.2.2.2.1 gX6_copy_X6_failed rfl rfl rfl hdV_X6_failed ⟨Nat.le_of_ble_eq_true rfl, Nat.le_of_ble_eq_true rfl⟩) [(h6, .inr (6, fM ((F_X6_failed (1 : Int32)).2) pn sl dr yn ra rp rs rd ry pk yk rg tc q)), ((q 25), .inl (cI, 4, .inl ss)), ((q 26), .inl (cI, 4, .inl sa)), ((q 27), .inl (cI, 240, .inl sh)), ((q 28), .inl (cI, 60, .inl hn))] [0] rfl rfl (Eq.refl [h6]) rfl 0 rfl rfl rfl _ rfl (Nat.le_of_ble_eq_true rfl) ⟨Nat.zero_le _, Nat.zero_le _⟩ dX6_copy_40 ?_
        generalize hu40 : (F_X6_failed (1 : Int32)) = u40 at hf ⊢
        exact z_iretW C hr hlk (by rw [hf]) (by rw [hf]) dX6_copy_43
      · rw [if_neg c26] at hf
        refine z_aload_n C dX6_copy_29 rfl 0 rfl ?_
        refine z_get (T := TX6) (v := .ref (q 25)) C i_X6_copy_6 0 rfl rfl 25 (by decide) m_X6_copy_1 rfl rfl dX6_copy_30 ?_
        refine z_iload_n C dX6_copy_33 rfl 3 rfl ?_
        refine z_ald C 1 rfl (by subst hu8 hu1; exact (noSheet_k c11)) dX6_copy_34 ?_
        refine z_if_ge (tgt := 44) C dX6_copy_35 (by decide) (fun c35 => ?_) (fun c35 => ?_)
        · rw [if_pos c35] at hf
          refine z_aload_n C dX6_copy_44 rfl 0 rfl ?_
          refine z_get (T := TX6) (v := .ref (q 26)) C i_X6_copy_6 0 rfl rfl 26 (by decide) m_X6_copy_2 rfl rfl dX6_copy_45 ?_
          refine z_iload_n C dX6_copy_48 rfl 1 rfl ?_
          refine z_ald C 2 rfl (by subst hu8 hu1; exact (noSheet_k c4)) dX6_copy_49 ?_
          refine z_aload_n C dX6_copy_50 rfl 0 rfl ?_
          refine z_get (T := TX6) (v := .ref (q 26)) C i_X6_copy_6 0 rfl rfl 26 (by decide) m_X6_copy_2 rfl rfl dX6_copy_51 ?_
          refine z_iload_n C dX6_copy_54 rfl 3 rfl ?_
          refine z_ald C 2 rfl (by subst hu8 hu1; exact (noSheet_k c11)) dX6_copy_55 ?_
          refine z_icmp_eq (tgt := 65) C dX6_copy_56 (by decide) (fun c56 => ?_) (fun c56 => ?_)
          · rw [if_pos c56] at hf
            refine z_iload_n C dX6_copy_65 rfl 2 rfl ?_
            refine z_iload C dX6_copy_66 5 rfl ?_
            refine z_i2l C dX6_copy_68 ?_
            refine z_aload_n C dX6_copy_69 rfl 0 rfl ?_
            refine z_get (T := TX6) (v := .ref (q 25)) C i_X6_copy_6 0 rfl rfl 25 (by decide) m_X6_copy_1 rfl rfl dX6_copy_70 ?_
            refine z_iload_n C dX6_copy_73 rfl 1 rfl ?_
            refine z_ald C 1 rfl (by subst hu8 hu1; exact (noSheet_k c4)) dX6_copy_74 ?_
            refine z_cSR (As := [.int i, .long n.toInt64, .int (ss k.toNatClampNeg)]) C (c_X6_isBeyond l D cI cO i n.toInt64 (ss k.toNatClampNeg)) (va_cwS 3 C.2.2.2.2.1 gX6_copy_X6_isBeyond rfl rfl rfl hdS_X6_isBeyond ⟨Nat.le_of_ble_eq_true rfl, Nat.le_of_ble_eq_true rfl⟩) [] rfl rfl rfl _ rfl (Nat.le_of_ble_eq_true rfl) ⟨Nat.zero_le _, Nat.zero_le _⟩ dX6_copy_75 ?_
            generalize hu75 : (F_X6_isBeyond i n.toInt64 (ss k.toNatClampNeg)) = u75 at hf ⊢
            refine z_if_ne (tgt := 98) C dX6_copy_78 (by decide) (fun c78 => ?_) (fun c78 => ?_)
            · rw [if_neg c78] at hf
              have b78 := c78
              rw [← hu75] at c78
              refine z_aload_n C dX6_copy_98 rfl 0 rfl ?_
              refine z_iconst (v := (3 : Int32)) C dX6_copy_99 (by decide) ?_
              refine z_cVW (As := [.int (3 : Int32)]) C (c_X6_failed l D cI cO h6 q fl pn sl dr yn ra rp rs rd ry pk yk rg tc (3 : Int32)) (cwV 1 C.2.2.2.2.1 gX6_copy_X6_failed rfl rfl rfl hdV_X6_failed ⟨Nat.le_of_ble_eq_true rfl, Nat.le_of_ble_eq_true rfl⟩) [(h6, .inr (6, fM ((F_X6_failed (3 : Int32)).2) pn sl dr yn ra rp rs rd ry pk yk rg tc q)), ((q 25), .inl (cI, 4, .inl ss)), ((q 26), .inl (cI, 4, .inl sa)), ((q 27), .inl (cI, 240, .inl sh)), ((q 28), .inl (cI, 60, .inl hn))] [0] rfl rfl (Eq.refl [h6]) rfl 0 rfl rfl rfl _ rfl (Nat.le_of_ble_eq_true rfl) ⟨Nat.zero_le _, Nat.zero_le _⟩ dX6_copy_100 ?_
              generalize hu100 : (F_X6_failed (3 : Int32)) = u100 at hf ⊢
              exact z_iretW C hr hlk (by rw [hf]) (by rw [hf]) dX6_copy_103
            · rw [if_pos c78] at hf
              have b78 := c78
              rw [← hu75] at c78
              refine z_iload C dX6_copy_81 4 rfl ?_
              refine z_iload C dX6_copy_83 5 rfl ?_
              refine z_i2l C dX6_copy_85 ?_
              refine z_aload_n C dX6_copy_86 rfl 0 rfl ?_
              refine z_get (T := TX6) (v := .ref (q 25)) C i_X6_copy_6 0 rfl rfl 25 (by decide) m_X6_copy_1 rfl rfl dX6_copy_87 ?_
              refine z_iload_n C dX6_copy_90 rfl 3 rfl ?_
              refine z_ald C 1 rfl (by subst hu75 hu8 hu1; exact (noSheet_k c11)) dX6_copy_91 ?_
              refine z_cSR (As := [.int j, .long n.toInt64, .int (ss o.toNatClampNeg)]) C (c_X6_isBeyond l D cI cO j n.toInt64 (ss o.toNatClampNeg)) (va_cwS 3 C.2.2.2.2.1 gX6_copy_X6_isBeyond rfl rfl rfl hdS_X6_isBeyond ⟨Nat.le_of_ble_eq_true rfl, Nat.le_of_ble_eq_true rfl⟩) [] rfl rfl rfl _ rfl (Nat.le_of_ble_eq_true rfl) ⟨Nat.zero_le _, Nat.zero_le _⟩ dX6_copy_92 ?_
              generalize hu92 : (F_X6_isBeyond j n.toInt64 (ss o.toNatClampNeg)) = u92 at hf ⊢
              refine z_if_eq (tgt := 104) C dX6_copy_95 (by decide) (fun c95 => ?_) (fun c95 => ?_)
              · rw [if_pos c95] at hf
                have b95 := c95
                rw [← hu92] at c95
                obtain ⟨k0, hk0, hk1⟩ := noSheet_in c4
                obtain ⟨o0, ho0, ho1⟩ := noSheet_in c11
                obtain ⟨a0, N0, ha1, hN1, haN⟩ := beyond_in (by rw [hk1, nI_clamp (by omega)]; exact hss k0 hk0) c78
                obtain ⟨b0, N2, hb1, hN2, hbN⟩ := beyond_in (by rw [ho1, nI_clamp (by omega)]; exact hss o0 ho0) c95
                have hNN := nI_inj (by omega) (by omega) (hN1.symm.trans hN2)
                refine z_iconst (v := (0 : Int32)) C dX6_copy_104 (by decide) ?_
                refine z_istore C [(0, .ref h6), (1, .int k), (2, .int i), (3, .int o), (4, .int j), (5, .int n), (6, .int (0 : Int32))] dX6_copy_105 (by decide) [1, 2, 3, 4, 5, 6, 0] rfl ?_
                have X107 : ∀ (x6_107 : Int32) (hn_107 : Nat → Int32), F_X6_copy ss sa sh hn k i o j n = (F_X6_copy_k107 sh o j n) x6_107 hn_107 → zG p l e ({ frames := 2, cells := 0, slots := 0, locals := 45 } : Room) s m args below meth c D (zA [(h6, .inr (6, fM fl pn sl dr yn ra rp rs rd ry pk yk rg tc q)), ((q 25), .inl (cI, 4, .inl ss)), ((q 26), .inl (cI, 4, .inl sa)), ((q 27), .inl (cI, 240, .inl sh)), ((q 28), .inl (cI, 60, .inl hn))]) (zXw (zA [(h6, .inr (6, fM fl pn sl dr yn ra rp rs rd ry pk yk rg tc q)), ((q 25), .inl (cI, 4, .inl ss)), ((q 26), .inl (cI, 4, .inl sa)), ((q 27), .inl (cI, 240, .inl sh)), ((q 28), .inl (cI, 60, .inl hn))]) s.heap) 7 0 0 (MQ below (zQw D [(h6, .inr (6, fM ((F_X6_copy ss sa sh hn k i o j n).2.1) pn sl dr yn ra rp rs rd ry pk yk rg tc q)), ((q 25), .inl (cI, 4, .inl ss)), ((q 26), .inl (cI, 4, .inl sa)), ((q 27), .inl (cI, 240, .inl ((F_X6_copy ss sa sh hn k i o j n).2.2.1))), ((q 28), .inl (cI, 60, .inl ((F_X6_copy ss sa sh hn k i o j n).2.2.2)))] (zA [(h6, .inr (6, fM fl pn sl dr yn ra rp rs rd ry pk yk rg tc q)), ((q 25), .inl (cI, 4, .inl ss)), ((q 26), .inl (cI, 4, .inl sa)), ((q 27), .inl (cI, 240, .inl sh)), ((q 28), .inl (cI, 60, .inl hn))]) (some (.int ((F_X6_copy ss sa sh hn k i o j n).1)))) args s 0 0 (zA [(h6, .inr (6, fM fl pn sl dr yn ra rp rs rd ry pk yk rg tc q)), ((q 25), .inl (cI, 4, .inl ss)), ((q 26), .inl (cI, 4, .inl sa)), ((q 27), .inl (cI, 240, .inl sh)), ((q 28), .inl (cI, 60, .inl hn))])) 141 [(0, .ref h6), (1, .int k), (2, .int i), (3, .int o), (4, .int j), (5, .int n), (6, .int x6_107)] [] [(h6, .inr (6, fM fl pn sl dr yn ra rp rs rd ry pk yk rg tc q)), ((q 25), .inl (cI, 4, .inl ss)), ((q 26), .inl (cI, 4, .inl sa)), ((q 27), .inl (cI, 240, .inl sh)), ((q 28), .inl (cI, 60, .inl hn_107))] := by
                  intro x6_107 hn_107 hf
                  rw [F_X6_copy_k107] at hf
                  skip
                  refine z_iconst (v := (0 : Int32)) C dX6_copy_141 (by decide) ?_
                  refine z_istore C [(0, .ref h6), (1, .int k), (2, .int i), (3, .int o), (4, .int j), (5, .int n), (6, .int (0 : Int32))] dX6_copy_142 (by decide) [1, 2, 3, 4, 5, 6, 0] rfl ?_
                  have X144 : ∀ (x6_144 : Int32) (sh_144 : Nat → Int32), F_X6_copy ss sa sh hn k i o j n = (F_X6_copy_k144 n hn_107) x6_144 sh_144 → zG p l e ({ frames := 2, cells := 0, slots := 0, locals := 45 } : Room) s m args below meth c D (zA [(h6, .inr (6, fM fl pn sl dr yn ra rp rs rd ry pk yk rg tc q)), ((q 25), .inl (cI, 4, .inl ss)), ((q 26), .inl (cI, 4, .inl sa)), ((q 27), .inl (cI, 240, .inl sh)), ((q 28), .inl (cI, 60, .inl hn))]) (zXw (zA [(h6, .inr (6, fM fl pn sl dr yn ra rp rs rd ry pk yk rg tc q)), ((q 25), .inl (cI, 4, .inl ss)), ((q 26), .inl (cI, 4, .inl sa)), ((q 27), .inl (cI, 240, .inl sh)), ((q 28), .inl (cI, 60, .inl hn))]) s.heap) 7 0 0 (MQ below (zQw D [(h6, .inr (6, fM ((F_X6_copy ss sa sh hn k i o j n).2.1) pn sl dr yn ra rp rs rd ry pk yk rg tc q)), ((q 25), .inl (cI, 4, .inl ss)), ((q 26), .inl (cI, 4, .inl sa)), ((q 27), .inl (cI, 240, .inl ((F_X6_copy ss sa sh hn k i o j n).2.2.1))), ((q 28), .inl (cI, 60, .inl ((F_X6_copy ss sa sh hn k i o j n).2.2.2)))] (zA [(h6, .inr (6, fM fl pn sl dr yn ra rp rs rd ry pk yk rg tc q)), ((q 25), .inl (cI, 4, .inl ss)), ((q 26), .inl (cI, 4, .inl sa)), ((q 27), .inl (cI, 240, .inl sh)), ((q 28), .inl (cI, 60, .inl hn))]) (some (.int ((F_X6_copy ss sa sh hn k i o j n).1)))) args s 0 0 (zA [(h6, .inr (6, fM fl pn sl dr yn ra rp rs rd ry pk yk rg tc q)), ((q 25), .inl (cI, 4, .inl ss)), ((q 26), .inl (cI, 4, .inl sa)), ((q 27), .inl (cI, 240, .inl sh)), ((q 28), .inl (cI, 60, .inl hn))])) 179 [(0, .ref h6), (1, .int k), (2, .int i), (3, .int o), (4, .int j), (5, .int n), (6, .int x6_144)] [] [(h6, .inr (6, fM fl pn sl dr yn ra rp rs rd ry pk yk rg tc q)), ((q 25), .inl (cI, 4, .inl ss)), ((q 26), .inl (cI, 4, .inl sa)), ((q 27), .inl (cI, 240, .inl sh_144)), ((q 28), .inl (cI, 60, .inl hn_107))] := by
                    intro x6_144 sh_144 hf
                    rw [F_X6_copy_k144] at hf
                    skip
                    refine z_aload_n C dX6_copy_179 rfl 0 rfl ?_
                    refine z_iload C dX6_copy_180 5 rfl ?_
                    refine z_cVW (As := [.int n]) C (c_X6_refused l D cI cO h6 q fl pn sl dr yn ra rp rs rd ry pk yk rg tc n) (cwV 1 C.2.2.2.2.1 gX6_copy_X6_refused rfl rfl rfl hdV_X6_refused ⟨Nat.le_of_ble_eq_true rfl, Nat.le_of_ble_eq_true rfl⟩) [(h6, .inr (6, fM ((F_X6_refused n).2) pn sl dr yn ra rp rs rd ry pk yk rg tc q)), ((q 25), .inl (cI, 4, .inl ss)), ((q 26), .inl (cI, 4, .inl sa)), ((q 27), .inl (cI, 240, .inl sh_144)), ((q 28), .inl (cI, 60, .inl hn_107))] [0] rfl rfl (Eq.refl [h6]) rfl 0 rfl rfl rfl _ rfl (Nat.le_of_ble_eq_true rfl) ⟨Nat.zero_le _, Nat.zero_le _⟩ dX6_copy_182 ?_
                    generalize hu182 : (F_X6_refused n) = u182 at hf ⊢
                    exact z_iretW C hr hlk (by rw [hf]) (by rw [hf]) dX6_copy_185
                  have L144 : ∀ (d144 : Nat) (jj : Nat) (x6_144 : Int32) (sh_144 : Nat → Int32) (e6 : x6_144 = nI jj) (hj : jj ≤ N0) (hd : N0 < jj + d144), F_X6_copy ss sa sh hn k i o j n = F_X6_copy_l144 o j n hn_107 (F_X6_copy_k144 n hn_107) d144 x6_144 sh_144 → zG p l e ({ frames := 2, cells := 0, slots := 0, locals := 45 } : Room) s m args below meth c D (zA [(h6, .inr (6, fM fl pn sl dr yn ra rp rs rd ry pk yk rg tc q)), ((q 25), .inl (cI, 4, .inl ss)), ((q 26), .inl (cI, 4, .inl sa)), ((q 27), .inl (cI, 240, .inl sh)), ((q 28), .inl (cI, 60, .inl hn))]) (zXw (zA [(h6, .inr (6, fM fl pn sl dr yn ra rp rs rd ry pk yk rg tc q)), ((q 25), .inl (cI, 4, .inl ss)), ((q 26), .inl (cI, 4, .inl sa)), ((q 27), .inl (cI, 240, .inl sh)), ((q 28), .inl (cI, 60, .inl hn))]) s.heap) 7 0 0 (MQ below (zQw D [(h6, .inr (6, fM ((F_X6_copy ss sa sh hn k i o j n).2.1) pn sl dr yn ra rp rs rd ry pk yk rg tc q)), ((q 25), .inl (cI, 4, .inl ss)), ((q 26), .inl (cI, 4, .inl sa)), ((q 27), .inl (cI, 240, .inl ((F_X6_copy ss sa sh hn k i o j n).2.2.1))), ((q 28), .inl (cI, 60, .inl ((F_X6_copy ss sa sh hn k i o j n).2.2.2)))] (zA [(h6, .inr (6, fM fl pn sl dr yn ra rp rs rd ry pk yk rg tc q)), ((q 25), .inl (cI, 4, .inl ss)), ((q 26), .inl (cI, 4, .inl sa)), ((q 27), .inl (cI, 240, .inl sh)), ((q 28), .inl (cI, 60, .inl hn))]) (some (.int ((F_X6_copy ss sa sh hn k i o j n).1)))) args s 0 0 (zA [(h6, .inr (6, fM fl pn sl dr yn ra rp rs rd ry pk yk rg tc q)), ((q 25), .inl (cI, 4, .inl ss)), ((q 26), .inl (cI, 4, .inl sa)), ((q 27), .inl (cI, 240, .inl sh)), ((q 28), .inl (cI, 60, .inl hn))])) 144 [(0, .ref h6), (1, .int k), (2, .int i), (3, .int o), (4, .int j), (5, .int n), (6, .int x6_144)] [] [(h6, .inr (6, fM fl pn sl dr yn ra rp rs rd ry pk yk rg tc q)), ((q 25), .inl (cI, 4, .inl ss)), ((q 26), .inl (cI, 4, .inl sa)), ((q 27), .inl (cI, 240, .inl sh_144)), ((q 28), .inl (cI, 60, .inl hn_107))] := by
                    intro d144
                    induction d144 with
                    | zero =>
                      intro jj x6_144 sh_144 e6 hj hd hf
                      exfalso; omega
                    | succ d144 ih144 =>
                      intro jj x6_144 sh_144 e6 hj hd hf
                      rw [F_X6_copy_l144] at hf
                      skip
                      refine z_iload C dX6_copy_144 6 rfl ?_
                      refine z_iload C dX6_copy_146 5 rfl ?_
                      refine z_icmp_ge (tgt := 179) C dX6_copy_148 (by decide) (fun c148 => ?_) (fun c148 => ?_)
                      · rw [if_pos c148] at hf
                        exact X144 x6_144 sh_144  hf
                      · rw [if_neg c148] at hf
                        refine z_aload_n C dX6_copy_151 rfl 0 rfl ?_
                        refine z_get (T := TX6) (v := .ref (q 27)) C i_X6_copy_6 0 rfl rfl 27 (by decide) m_X6_copy_4 rfl rfl dX6_copy_152 ?_
                        refine z_bipush (v := (60 : Int32)) C dX6_copy_155 (by decide) ?_
                        refine z_iload_n C dX6_copy_157 rfl 3 rfl ?_
                        refine z_imul C dX6_copy_158 ?_
                        refine z_iload C dX6_copy_159 4 rfl ?_
                        refine z_iadd C dX6_copy_161 ?_
                        refine z_iload C dX6_copy_162 6 rfl ?_
                        refine z_iadd C dX6_copy_164 ?_
                        refine z_aload_n C dX6_copy_165 rfl 0 rfl ?_
                        refine z_get (T := TX6) (v := .ref (q 28)) C i_X6_copy_6 0 rfl rfl 28 (by decide) m_X6_copy_3 rfl rfl dX6_copy_166 ?_
                        refine z_iload C dX6_copy_169 6 rfl ?_
                        refine z_ald C 4 rfl (by subst hu92 hu75 hu8 hu1; exact (z_ixN e6 (by have := z_jlt e6 (by omega) (z_tiN hN1 (by omega)) c148; omega) (by decide))) dX6_copy_171 ?_
                        refine z_ast C [(h6, .inr (6, fM fl pn sl dr yn ra rp rs rd ry pk yk rg tc q)), ((q 25), .inl (cI, 4, .inl ss)), ((q 26), .inl (cI, 4, .inl sa)), ((q 27), .inl (cI, 240, .inl (upd sh_144 ((((60 : Int32) * o) + j) + x6_144).toNatClampNeg (hn_107 x6_144.toNatClampNeg)))), ((q 28), .inl (cI, 60, .inl hn_107))] 3 rfl (by subst hu92 hu75 hu8 hu1; exact (sheet_ix2 ho1 ho0 hb1 e6 (by have := z_jlt e6 (by omega) (z_tiN hN1 (by omega)) c148; omega))) dX6_copy_172 rfl ?_
                        refine z_iinc (v := (x6_144 + (1 : Int32))) C [(0, .ref h6), (1, .int k), (2, .int i), (3, .int o), (4, .int j), (5, .int n), (6, .int (x6_144 + (1 : Int32)))] dX6_copy_173 6 rfl (by rfl) (by decide) [1, 2, 3, 4, 5, 6, 0] rfl ?_
                        refine z_goto (tgt := 144) C dX6_copy_176 (by decide) ?_
                        exact ih144 (jj + 1) (x6_144 + (1 : Int32)) (upd sh_144 ((((60 : Int32) * o) + j) + x6_144).toNatClampNeg (hn_107 x6_144.toNatClampNeg)) (by subst hu92 hu75 hu8 hu1; exact (by rw [e6]; exact nI_1 jj)) (by subst hu92 hu75 hu8 hu1; exact (by have := z_jlt e6 (by omega) (z_tiN hN1 (by omega)) c148; omega)) (by omega) hf
                  exact L144 61 0 (0 : Int32) sh (by subst hu92 hu75 hu8 hu1; exact nI_0.symm) (by subst hu92 hu75 hu8 hu1; exact (Nat.zero_le _)) (by omega) hf
                have L107 : ∀ (d107 : Nat) (jj : Nat) (x6_107 : Int32) (hn_107 : Nat → Int32) (e6 : x6_107 = nI jj) (hj : jj ≤ N0) (hd : N0 < jj + d107), F_X6_copy ss sa sh hn k i o j n = F_X6_copy_l107 sh k i n (F_X6_copy_k107 sh o j n) d107 x6_107 hn_107 → zG p l e ({ frames := 2, cells := 0, slots := 0, locals := 45 } : Room) s m args below meth c D (zA [(h6, .inr (6, fM fl pn sl dr yn ra rp rs rd ry pk yk rg tc q)), ((q 25), .inl (cI, 4, .inl ss)), ((q 26), .inl (cI, 4, .inl sa)), ((q 27), .inl (cI, 240, .inl sh)), ((q 28), .inl (cI, 60, .inl hn))]) (zXw (zA [(h6, .inr (6, fM fl pn sl dr yn ra rp rs rd ry pk yk rg tc q)), ((q 25), .inl (cI, 4, .inl ss)), ((q 26), .inl (cI, 4, .inl sa)), ((q 27), .inl (cI, 240, .inl sh)), ((q 28), .inl (cI, 60, .inl hn))]) s.heap) 7 0 0 (MQ below (zQw D [(h6, .inr (6, fM ((F_X6_copy ss sa sh hn k i o j n).2.1) pn sl dr yn ra rp rs rd ry pk yk rg tc q)), ((q 25), .inl (cI, 4, .inl ss)), ((q 26), .inl (cI, 4, .inl sa)), ((q 27), .inl (cI, 240, .inl ((F_X6_copy ss sa sh hn k i o j n).2.2.1))), ((q 28), .inl (cI, 60, .inl ((F_X6_copy ss sa sh hn k i o j n).2.2.2)))] (zA [(h6, .inr (6, fM fl pn sl dr yn ra rp rs rd ry pk yk rg tc q)), ((q 25), .inl (cI, 4, .inl ss)), ((q 26), .inl (cI, 4, .inl sa)), ((q 27), .inl (cI, 240, .inl sh)), ((q 28), .inl (cI, 60, .inl hn))]) (some (.int ((F_X6_copy ss sa sh hn k i o j n).1)))) args s 0 0 (zA [(h6, .inr (6, fM fl pn sl dr yn ra rp rs rd ry pk yk rg tc q)), ((q 25), .inl (cI, 4, .inl ss)), ((q 26), .inl (cI, 4, .inl sa)), ((q 27), .inl (cI, 240, .inl sh)), ((q 28), .inl (cI, 60, .inl hn))])) 107 [(0, .ref h6), (1, .int k), (2, .int i), (3, .int o), (4, .int j), (5, .int n), (6, .int x6_107)] [] [(h6, .inr (6, fM fl pn sl dr yn ra rp rs rd ry pk yk rg tc q)), ((q 25), .inl (cI, 4, .inl ss)), ((q 26), .inl (cI, 4, .inl sa)), ((q 27), .inl (cI, 240, .inl sh)), ((q 28), .inl (cI, 60, .inl hn_107))] := by
                  intro d107
                  induction d107 with
                  | zero =>
                    intro jj x6_107 hn_107 e6 hj hd hf
                    exfalso; omega
                  | succ d107 ih107 =>
                    intro jj x6_107 hn_107 e6 hj hd hf
                    rw [F_X6_copy_l107] at hf
                    skip
                    refine z_iload C dX6_copy_107 6 rfl ?_
                    refine z_iload C dX6_copy_109 5 rfl ?_
                    refine z_icmp_ge (tgt := 141) C dX6_copy_111 (by decide) (fun c111 => ?_) (fun c111 => ?_)
                    · rw [if_pos c111] at hf
                      exact X107 x6_107 hn_107  hf
                    · rw [if_neg c111] at hf
                      refine z_aload_n C dX6_copy_114 rfl 0 rfl ?_
                      refine z_get (T := TX6) (v := .ref (q 28)) C i_X6_copy_6 0 rfl rfl 28 (by decide) m_X6_copy_3 rfl rfl dX6_copy_115 ?_
                      refine z_iload C dX6_copy_118 6 rfl ?_
                      refine z_aload_n C dX6_copy_120 rfl 0 rfl ?_
                      refine z_get (T := TX6) (v := .ref (q 27)) C i_X6_copy_6 0 rfl rfl 27 (by decide) m_X6_copy_4 rfl rfl dX6_copy_121 ?_
                      refine z_bipush (v := (60 : Int32)) C dX6_copy_124 (by decide) ?_
                      refine z_iload_n C dX6_copy_126 rfl 1 rfl ?_
                      refine z_imul C dX6_copy_127 ?_
                      refine z_iload_n C dX6_copy_128 rfl 2 rfl ?_
                      refine z_iadd C dX6_copy_129 ?_
                      refine z_iload C dX6_copy_130 6 rfl ?_
                      refine z_iadd C dX6_copy_132 ?_
                      refine z_ald C 3 rfl (by subst hu92 hu75 hu8 hu1; exact (sheet_ix2 hk1 hk0 ha1 e6 (by have := z_jlt e6 (by omega) (z_tiN hN1 (by omega)) c111; omega))) dX6_copy_133 ?_
                      refine z_ast C [(h6, .inr (6, fM fl pn sl dr yn ra rp rs rd ry pk yk rg tc q)), ((q 25), .inl (cI, 4, .inl ss)), ((q 26), .inl (cI, 4, .inl sa)), ((q 27), .inl (cI, 240, .inl sh)), ((q 28), .inl (cI, 60, .inl (upd hn_107 x6_107.toNatClampNeg (sh ((((60 : Int32) * k) + i) + x6_107).toNatClampNeg))))] 4 rfl (by subst hu92 hu75 hu8 hu1; exact (z_ixN e6 (by have := z_jlt e6 (by omega) (z_tiN hN1 (by omega)) c111; omega) (by decide))) dX6_copy_134 rfl ?_
                      refine z_iinc (v := (x6_107 + (1 : Int32))) C [(0, .ref h6), (1, .int k), (2, .int i), (3, .int o), (4, .int j), (5, .int n), (6, .int (x6_107 + (1 : Int32)))] dX6_copy_135 6 rfl (by rfl) (by decide) [1, 2, 3, 4, 5, 6, 0] rfl ?_
                      refine z_goto (tgt := 107) C dX6_copy_138 (by decide) ?_
                      exact ih107 (jj + 1) (x6_107 + (1 : Int32)) (upd hn_107 x6_107.toNatClampNeg (sh ((((60 : Int32) * k) + i) + x6_107).toNatClampNeg)) (by subst hu92 hu75 hu8 hu1; exact (by rw [e6]; exact nI_1 jj)) (by subst hu92 hu75 hu8 hu1; exact (by have := z_jlt e6 (by omega) (z_tiN hN1 (by omega)) c111; omega)) (by omega) hf
                exact L107 61 0 (0 : Int32) hn (by subst hu92 hu75 hu8 hu1; exact nI_0.symm) (by subst hu92 hu75 hu8 hu1; exact (Nat.zero_le _)) (by omega) hf
              · rw [if_neg c95] at hf
                have b95 := c95
                rw [← hu92] at c95
                refine z_aload_n C dX6_copy_98 rfl 0 rfl ?_
                refine z_iconst (v := (3 : Int32)) C dX6_copy_99 (by decide) ?_
                refine z_cVW (As := [.int (3 : Int32)]) C (c_X6_failed l D cI cO h6 q fl pn sl dr yn ra rp rs rd ry pk yk rg tc (3 : Int32)) (cwV 1 C.2.2.2.2.1 gX6_copy_X6_failed rfl rfl rfl hdV_X6_failed ⟨Nat.le_of_ble_eq_true rfl, Nat.le_of_ble_eq_true rfl⟩) [(h6, .inr (6, fM ((F_X6_failed (3 : Int32)).2) pn sl dr yn ra rp rs rd ry pk yk rg tc q)), ((q 25), .inl (cI, 4, .inl ss)), ((q 26), .inl (cI, 4, .inl sa)), ((q 27), .inl (cI, 240, .inl sh)), ((q 28), .inl (cI, 60, .inl hn))] [0] rfl rfl (Eq.refl [h6]) rfl 0 rfl rfl rfl _ rfl (Nat.le_of_ble_eq_true rfl) ⟨Nat.zero_le _, Nat.zero_le _⟩ dX6_copy_100 ?_
                generalize hu100 : (F_X6_failed (3 : Int32)) = u100 at hf ⊢
                exact z_iretW C hr hlk (by rw [hf]) (by rw [hf]) dX6_copy_103
          · rw [if_neg c56] at hf
            refine z_aload_n C dX6_copy_59 rfl 0 rfl ?_
            refine z_iconst (v := (2 : Int32)) C dX6_copy_60 (by decide) ?_
            refine z_cVW (As := [.int (2 : Int32)]) C (c_X6_failed l D cI cO h6 q fl pn sl dr yn ra rp rs rd ry pk yk rg tc (2 : Int32)) (cwV 1 C.2.2.2.2.1 gX6_copy_X6_failed rfl rfl rfl hdV_X6_failed ⟨Nat.le_of_ble_eq_true rfl, Nat.le_of_ble_eq_true rfl⟩) [(h6, .inr (6, fM ((F_X6_failed (2 : Int32)).2) pn sl dr yn ra rp rs rd ry pk yk rg tc q)), ((q 25), .inl (cI, 4, .inl ss)), ((q 26), .inl (cI, 4, .inl sa)), ((q 27), .inl (cI, 240, .inl sh)), ((q 28), .inl (cI, 60, .inl hn))] [0] rfl rfl (Eq.refl [h6]) rfl 0 rfl rfl rfl _ rfl (Nat.le_of_ble_eq_true rfl) ⟨Nat.zero_le _, Nat.zero_le _⟩ dX6_copy_61 ?_
            generalize hu61 : (F_X6_failed (2 : Int32)) = u61 at hf ⊢
            exact z_iretW C hr hlk (by rw [hf]) (by rw [hf]) dX6_copy_64
        · rw [if_neg c35] at hf
          refine z_aload_n C dX6_copy_38 rfl 0 rfl ?_
          refine z_iconst (v := (1 : Int32)) C dX6_copy_39 (by decide) ?_
          refine z_cVW (As := [.int (1 : Int32)]) C (c_X6_failed l D cI cO h6 q fl pn sl dr yn ra rp rs rd ry pk yk rg tc (1 : Int32)) (cwV 1 C.2.2.2.2.1 gX6_copy_X6_failed rfl rfl rfl hdV_X6_failed ⟨Nat.le_of_ble_eq_true rfl, Nat.le_of_ble_eq_true rfl⟩) [(h6, .inr (6, fM ((F_X6_failed (1 : Int32)).2) pn sl dr yn ra rp rs rd ry pk yk rg tc q)), ((q 25), .inl (cI, 4, .inl ss)), ((q 26), .inl (cI, 4, .inl sa)), ((q 27), .inl (cI, 240, .inl sh)), ((q 28), .inl (cI, 60, .inl hn))] [0] rfl rfl (Eq.refl [h6]) rfl 0 rfl rfl rfl _ rfl (Nat.le_of_ble_eq_true rfl) ⟨Nat.zero_le _, Nat.zero_le _⟩ dX6_copy_40 ?_
          generalize hu40 : (F_X6_failed (1 : Int32)) = u40 at hf ⊢
          exact z_iretW C hr hlk (by rw [hf]) (by rw [hf]) dX6_copy_43
    · rw [if_neg c11] at hf
      have b11 := c11
      rw [← hu8] at c11
      refine z_aload_n C dX6_copy_14 rfl 0 rfl ?_
      refine z_iconst (v := (-1 : Int32)) C dX6_copy_15 (by decide) ?_
      refine z_cVW (As := [.int (-1 : Int32)]) C (c_X6_refused l D cI cO h6 q fl pn sl dr yn ra rp rs rd ry pk yk rg tc (-1 : Int32)) (cwV 1 C.2.2.2.2.1 gX6_copy_X6_refused rfl rfl rfl hdV_X6_refused ⟨Nat.le_of_ble_eq_true rfl, Nat.le_of_ble_eq_true rfl⟩) [(h6, .inr (6, fM ((F_X6_refused (-1 : Int32)).2) pn sl dr yn ra rp rs rd ry pk yk rg tc q)), ((q 25), .inl (cI, 4, .inl ss)), ((q 26), .inl (cI, 4, .inl sa)), ((q 27), .inl (cI, 240, .inl sh)), ((q 28), .inl (cI, 60, .inl hn))] [0] rfl rfl (Eq.refl [h6]) rfl 0 rfl rfl rfl _ rfl (Nat.le_of_ble_eq_true rfl) ⟨Nat.zero_le _, Nat.zero_le _⟩ dX6_copy_16 ?_
      generalize hu16 : (F_X6_refused (-1 : Int32)) = u16 at hf ⊢
      exact z_iretW C hr hlk (by rw [hf]) (by rw [hf]) dX6_copy_19
-- X6_traced
theorem i_X6_traced_6 : ∀ w ∈ u_ws RX6 TX6 30, w ∈ wsX6_traced := by decide +kernel
theorem m_X6_traced_1 : Cond.fieldLink RX6 229 "WishPinsModel" "traceNow" "I" ∈ wsX6_traced := List.mem_of_getElem? (i := 1) rfl
def F_X6_traced (tc : Int32) (k : Int32) : Int32 :=
  (((31 : Int32) * tc) + k)
set_option maxHeartbeats 4000000 in
set_option maxRecDepth 100000 in
theorem c_X6_traced (l : Launch) (D : va_G) (cI cO : ClassId) (h6 : Nat) (q : Nat → Nat) (fl : Int32) (pn : Int32) (sl : Int32) (dr : Int32) (yn : Int32) (ra : Int32) (rp : Int32) (rs : Int32) (rd : Int32) (ry : Int32) (pk : Int32) (yk : Int32) (rg : Int32) (tc : Int32) (k : Int32) : zW l yX6_traced wsX6_traced ({ frames := 0, cells := 0, slots := 0, locals := 0 } : Room) D cI cO [.ref h6, .int k] [(h6, .inr (6, fM fl pn sl dr yn ra rp rs rd ry pk yk rg tc q))] [(h6, .inr (6, fM fl pn sl dr yn ra rp rs rd ry pk yk rg (F_X6_traced tc k) q))] none := by
  refine zW_of (nL := 2) (cc := cX6_traced) (ret := none) (lv := [(0, .ref h6), (1, .int k)]) (by decide +kernel) rfl (Nat.le_of_ble_eq_true rfl) rfl (fun p e s m args below meth c C hr hlk => ?_)
  have hf := F_X6_traced.eq_1 tc k
  refine z_aload_n C dX6_traced_0 rfl 0 rfl ?_
  refine z_bipush (v := (31 : Int32)) C dX6_traced_1 (by decide) ?_
  refine z_aload_n C dX6_traced_3 rfl 0 rfl ?_
  refine z_get (T := TX6) (v := .int tc) C i_X6_traced_6 0 rfl rfl 29 (by decide) m_X6_traced_1 rfl rfl dX6_traced_4 ?_
  refine z_imul C dX6_traced_7 ?_
  refine z_iload_n C dX6_traced_8 rfl 1 rfl ?_
  refine z_iadd C dX6_traced_9 ?_
  refine z_put (T := TX6) (ty := .int) C [(h6, .inr (6, fM fl pn sl dr yn ra rp rs rd ry pk yk rg (((31 : Int32) * tc) + k) q))] i_X6_traced_6 tyX6 tyX6_ok nmX6 0 rfl rfl 29 (by decide) m_X6_traced_1 rfl rfl (by decide +kernel) rfl rfl (Nat.le_of_ble_eq_true rfl) dX6_traced_10 rfl ?_
  exact z_vretW C hr hlk (by rw [hf]) dX6_traced_13
-- X6_tell
theorem i_X6_tell_6 : ∀ w ∈ u_ws RX6 TX6 30, w ∈ wsX6_tell := by decide +kernel
theorem m_X6_tell_1 : Cond.fieldLink RX6 7 "WishPinsModel" "kindOf" "[I" ∈ wsX6_tell := List.mem_of_getElem? (i := 1) rfl
theorem m_X6_tell_2 : Cond.fieldLink RX6 13 "WishPinsModel" "bendOf" "[I" ∈ wsX6_tell := List.mem_of_getElem? (i := 2) rfl
def F_X6_tell (pn : Int32) (tc : Int32) (ko : Nat → Int32) (bo : Nat → Int32) (k : Int32) : Int32 × Int32 :=
  (if (F_X6_noPin pn k) = 0 then (if (ko k.toNatClampNeg) = (2 : Int32) then ((((2 : Int32) * (bo k.toNatClampNeg)) + (100 : Int32)), (F_X6_traced (F_X6_traced (F_X6_traced (F_X6_traced tc (3 : Int32)) (2 : Int32)) (1 : Int32)) (1 : Int32))) else (if (ko k.toNatClampNeg) ≤ 0 then (if (ko k.toNatClampNeg) = 0 then ((bo k.toNatClampNeg), (F_X6_traced tc (1 : Int32))) else ((((2 : Int32) * (bo k.toNatClampNeg)) + (100 : Int32)), (F_X6_traced tc (1 : Int32)))) else (if (ko k.toNatClampNeg) = (1 : Int32) then (((bo k.toNatClampNeg) + (100 : Int32)), (F_X6_traced (F_X6_traced tc (2 : Int32)) (1 : Int32))) else ((((2 : Int32) * (bo k.toNatClampNeg)) + (100 : Int32)), (F_X6_traced (F_X6_traced tc (2 : Int32)) (1 : Int32)))))) else ((-1 : Int32), tc))
set_option maxHeartbeats 4000000 in
set_option maxRecDepth 100000 in
theorem c_X6_tell (l : Launch) (D : va_G) (cI cO : ClassId) (h6 : Nat) (q : Nat → Nat) (fl : Int32) (pn : Int32) (sl : Int32) (dr : Int32) (yn : Int32) (ra : Int32) (rp : Int32) (rs : Int32) (rd : Int32) (ry : Int32) (pk : Int32) (yk : Int32) (rg : Int32) (tc : Int32) (ko : Nat → Int32) (bo : Nat → Int32) (k : Int32) (np : Nat) (hpn : pn = nI np) (hnp : np ≤ 9) : zW l yX6_tell wsX6_tell ({ frames := 2, cells := 0, slots := 0, locals := 46 } : Room) D cI cO [.ref h6, .int k] [(h6, .inr (6, fM fl pn sl dr yn ra rp rs rd ry pk yk rg tc q)), ((q 5), .inl (cI, 9, .inl ko)), ((q 6), .inl (cI, 9, .inl bo))] [(h6, .inr (6, fM fl pn sl dr yn ra rp rs rd ry pk yk rg ((F_X6_tell pn tc ko bo k).2) q)), ((q 5), .inl (cI, 9, .inl ko)), ((q 6), .inl (cI, 9, .inl bo))] (some (.int ((F_X6_tell pn tc ko bo k).1))) := by
  refine zW_of (nL := 4) (cc := cX6_tell) (ret := some .int) (lv := [(0, .ref h6), (1, .int k)]) (by decide +kernel) rfl (Nat.le_of_ble_eq_true rfl) rfl (fun p e s m args below meth c C hr hlk => ?_)
  have hf := F_X6_tell.eq_1 pn tc ko bo k
  refine z_aload_n C dX6_tell_0 rfl 0 rfl ?_
  refine z_iload_n C dX6_tell_1 rfl 1 rfl ?_
  refine z_cVR (As := [.int k]) C (c_X6_noPin l D cI cO h6 q fl pn sl dr yn ra rp rs rd ry pk yk rg tc k) (cwV 1 C.2.2.2.2.1 gX6_tell_X6_noPin rfl rfl rfl hdV_X6_noPin ⟨Nat.le_of_ble_eq_true rfl, Nat.le_of_ble_eq_true rfl⟩) [0] rfl rfl 0 rfl rfl rfl _ rfl (Nat.le_of_ble_eq_true rfl) ⟨Nat.zero_le _, Nat.zero_le _⟩ dX6_tell_2 ?_
  generalize hu2 : (F_X6_noPin pn k) = u2 at hf ⊢
  refine z_if_eq (tgt := 10) C dX6_tell_5 (by decide) (fun c5 => ?_) (fun c5 => ?_)
  · rw [if_pos c5] at hf
    have b5 := c5
    rw [← hu2] at c5
    refine z_aload_n C dX6_tell_10 rfl 0 rfl ?_
    refine z_get (T := TX6) (v := .ref (q 5)) C i_X6_tell_6 0 rfl rfl 5 (by decide) m_X6_tell_1 rfl rfl dX6_tell_11 ?_
    refine z_iload_n C dX6_tell_14 rfl 1 rfl ?_
    refine z_ald C 1 rfl (by subst hu2; exact (noPin_ix hpn hnp c5)) dX6_tell_15 ?_
    refine z_istore_n C [(0, .ref h6), (1, .int k), (2, .int (ko k.toNatClampNeg))] dX6_tell_16 rfl (by decide) [1, 2, 0] rfl ?_
    refine z_iload_n C dX6_tell_17 rfl 2 rfl ?_
    refine z_iconst (v := (2 : Int32)) C dX6_tell_18 (by decide) ?_
    refine z_icmp_ne (tgt := 27) C dX6_tell_19 (by decide) (fun c19 => ?_) (fun c19 => ?_)
    · rw [if_neg c19] at hf
      refine z_iload_n C dX6_tell_27 rfl 2 rfl ?_
      refine z_if_le (tgt := 36) C dX6_tell_28 (by decide) (fun c28 => ?_) (fun c28 => ?_)
      · rw [if_pos c28] at hf
        refine z_aload_n C dX6_tell_36 rfl 0 rfl ?_
        refine z_iconst (v := (1 : Int32)) C dX6_tell_37 (by decide) ?_
        refine z_cVW (As := [.int (1 : Int32)]) C (c_X6_traced l D cI cO h6 q fl pn sl dr yn ra rp rs rd ry pk yk rg tc (1 : Int32)) (cwV 1 C.2.2.2.2.1 gX6_tell_X6_traced rfl rfl rfl hdV_X6_traced ⟨Nat.le_of_ble_eq_true rfl, Nat.le_of_ble_eq_true rfl⟩) [(h6, .inr (6, fM fl pn sl dr yn ra rp rs rd ry pk yk rg (F_X6_traced tc (1 : Int32)) q)), ((q 5), .inl (cI, 9, .inl ko)), ((q 6), .inl (cI, 9, .inl bo))] [0] rfl rfl (Eq.refl [h6]) rfl 0 rfl rfl rfl _ rfl (Nat.le_of_ble_eq_true rfl) ⟨Nat.zero_le _, Nat.zero_le _⟩ dX6_tell_38 ?_
        generalize hu38 : (F_X6_traced tc (1 : Int32)) = u38 at hf ⊢
        refine z_iload_n C dX6_tell_41 rfl 2 rfl ?_
        refine z_iconst (v := (2 : Int32)) C dX6_tell_42 (by decide) ?_
        refine z_icmp_ne (tgt := 51) C dX6_tell_43 (by decide) (fun _ => ?_) (fun h9 => absurd h9 c19)
        refine z_aload_n C dX6_tell_51 rfl 0 rfl ?_
        refine z_get (T := TX6) (v := .ref (q 6)) C i_X6_tell_6 0 rfl rfl 6 (by decide) m_X6_tell_2 rfl rfl dX6_tell_52 ?_
        refine z_iload_n C dX6_tell_55 rfl 1 rfl ?_
        refine z_ald C 2 rfl (by subst hu38 hu2; exact (noPin_ix hpn hnp c5)) dX6_tell_56 ?_
        refine z_istore_n C [(0, .ref h6), (1, .int k), (2, .int (ko k.toNatClampNeg)), (3, .int (bo k.toNatClampNeg))] dX6_tell_57 rfl (by decide) [1, 2, 3, 0] rfl ?_
        refine z_iload_n C dX6_tell_58 rfl 2 rfl ?_
        refine z_if_ne (tgt := 66) C dX6_tell_59 (by decide) (fun c59 => ?_) (fun c59 => ?_)
        · rw [if_neg c59] at hf
          refine z_iload_n C dX6_tell_66 rfl 2 rfl ?_
          refine z_iconst (v := (1 : Int32)) C dX6_tell_67 (by decide) ?_
          refine z_icmp_ne (tgt := 78) C dX6_tell_68 (by decide) (fun _ => ?_) (fun h9 => absurd h9 (mt (zl_eq (x := (ko k.toNatClampNeg)) (z := 1) (by decide)).mp (by have q0 := mt (zl_eq (x := (ko k.toNatClampNeg)) (z := 2) (by decide)).mpr c19; have q1 := (zl_le (x := (ko k.toNatClampNeg)) (z := 0) (by decide)).mp c28; have q2 := mt (zl_eq (x := (ko k.toNatClampNeg)) (z := 0) (by decide)).mpr c59; omega)))
          refine z_iconst (v := (2 : Int32)) C dX6_tell_78 (by decide) ?_
          refine z_iload_n C dX6_tell_79 rfl 3 rfl ?_
          refine z_imul C dX6_tell_80 ?_
          refine z_bipush (v := (100 : Int32)) C dX6_tell_81 (by decide) ?_
          refine z_iadd C dX6_tell_83 ?_
          exact z_iretW C hr hlk (by rw [hf]) (by rw [hf]) dX6_tell_84
        · rw [if_pos c59] at hf
          refine z_iload_n C dX6_tell_62 rfl 3 rfl ?_
          refine z_goto (tgt := 84) C dX6_tell_63 (by decide) ?_
          exact z_iretW C hr hlk (by rw [hf]) (by rw [hf]) dX6_tell_84
      · rw [if_neg c28] at hf
        refine z_aload_n C dX6_tell_31 rfl 0 rfl ?_
        refine z_iconst (v := (2 : Int32)) C dX6_tell_32 (by decide) ?_
        refine z_cVW (As := [.int (2 : Int32)]) C (c_X6_traced l D cI cO h6 q fl pn sl dr yn ra rp rs rd ry pk yk rg tc (2 : Int32)) (cwV 1 C.2.2.2.2.1 gX6_tell_X6_traced rfl rfl rfl hdV_X6_traced ⟨Nat.le_of_ble_eq_true rfl, Nat.le_of_ble_eq_true rfl⟩) [(h6, .inr (6, fM fl pn sl dr yn ra rp rs rd ry pk yk rg (F_X6_traced tc (2 : Int32)) q)), ((q 5), .inl (cI, 9, .inl ko)), ((q 6), .inl (cI, 9, .inl bo))] [0] rfl rfl (Eq.refl [h6]) rfl 0 rfl rfl rfl _ rfl (Nat.le_of_ble_eq_true rfl) ⟨Nat.zero_le _, Nat.zero_le _⟩ dX6_tell_33 ?_
        generalize hu33 : (F_X6_traced tc (2 : Int32)) = u33 at hf ⊢
        refine z_aload_n C dX6_tell_36 rfl 0 rfl ?_
        refine z_iconst (v := (1 : Int32)) C dX6_tell_37 (by decide) ?_
        refine z_cVW (As := [.int (1 : Int32)]) C (c_X6_traced l D cI cO h6 q fl pn sl dr yn ra rp rs rd ry pk yk rg u33 (1 : Int32)) (cwV 1 C.2.2.2.2.1 gX6_tell_X6_traced rfl rfl rfl hdV_X6_traced ⟨Nat.le_of_ble_eq_true rfl, Nat.le_of_ble_eq_true rfl⟩) [(h6, .inr (6, fM fl pn sl dr yn ra rp rs rd ry pk yk rg (F_X6_traced u33 (1 : Int32)) q)), ((q 5), .inl (cI, 9, .inl ko)), ((q 6), .inl (cI, 9, .inl bo))] [0] rfl rfl (Eq.refl [h6]) rfl 0 rfl rfl rfl _ rfl (Nat.le_of_ble_eq_true rfl) ⟨Nat.zero_le _, Nat.zero_le _⟩ dX6_tell_38 ?_
        generalize hu38 : (F_X6_traced u33 (1 : Int32)) = u38 at hf ⊢
        refine z_iload_n C dX6_tell_41 rfl 2 rfl ?_
        refine z_iconst (v := (2 : Int32)) C dX6_tell_42 (by decide) ?_
        refine z_icmp_ne (tgt := 51) C dX6_tell_43 (by decide) (fun _ => ?_) (fun h9 => absurd h9 c19)
        refine z_aload_n C dX6_tell_51 rfl 0 rfl ?_
        refine z_get (T := TX6) (v := .ref (q 6)) C i_X6_tell_6 0 rfl rfl 6 (by decide) m_X6_tell_2 rfl rfl dX6_tell_52 ?_
        refine z_iload_n C dX6_tell_55 rfl 1 rfl ?_
        refine z_ald C 2 rfl (by subst hu38 hu33 hu2; exact (noPin_ix hpn hnp c5)) dX6_tell_56 ?_
        refine z_istore_n C [(0, .ref h6), (1, .int k), (2, .int (ko k.toNatClampNeg)), (3, .int (bo k.toNatClampNeg))] dX6_tell_57 rfl (by decide) [1, 2, 3, 0] rfl ?_
        refine z_iload_n C dX6_tell_58 rfl 2 rfl ?_
        refine z_if_ne (tgt := 66) C dX6_tell_59 (by decide) (fun _ => ?_) (fun h9 => absurd h9 (mt (zl_eq (x := (ko k.toNatClampNeg)) (z := 0) (by decide)).mp (by have q0 := mt (zl_eq (x := (ko k.toNatClampNeg)) (z := 2) (by decide)).mpr c19; have q1 := mt (zl_le (x := (ko k.toNatClampNeg)) (z := 0) (by decide)).mpr c28; omega)))
        refine z_iload_n C dX6_tell_66 rfl 2 rfl ?_
        refine z_iconst (v := (1 : Int32)) C dX6_tell_67 (by decide) ?_
        refine z_icmp_ne (tgt := 78) C dX6_tell_68 (by decide) (fun c68 => ?_) (fun c68 => ?_)
        · rw [if_neg c68] at hf
          refine z_iconst (v := (2 : Int32)) C dX6_tell_78 (by decide) ?_
          refine z_iload_n C dX6_tell_79 rfl 3 rfl ?_
          refine z_imul C dX6_tell_80 ?_
          refine z_bipush (v := (100 : Int32)) C dX6_tell_81 (by decide) ?_
          refine z_iadd C dX6_tell_83 ?_
          exact z_iretW C hr hlk (by rw [hf]) (by rw [hf]) dX6_tell_84
        · rw [if_pos c68] at hf
          refine z_iload_n C dX6_tell_71 rfl 3 rfl ?_
          refine z_bipush (v := (100 : Int32)) C dX6_tell_72 (by decide) ?_
          refine z_iadd C dX6_tell_74 ?_
          refine z_goto (tgt := 84) C dX6_tell_75 (by decide) ?_
          exact z_iretW C hr hlk (by rw [hf]) (by rw [hf]) dX6_tell_84
    · rw [if_pos c19] at hf
      refine z_aload_n C dX6_tell_22 rfl 0 rfl ?_
      refine z_iconst (v := (3 : Int32)) C dX6_tell_23 (by decide) ?_
      refine z_cVW (As := [.int (3 : Int32)]) C (c_X6_traced l D cI cO h6 q fl pn sl dr yn ra rp rs rd ry pk yk rg tc (3 : Int32)) (cwV 1 C.2.2.2.2.1 gX6_tell_X6_traced rfl rfl rfl hdV_X6_traced ⟨Nat.le_of_ble_eq_true rfl, Nat.le_of_ble_eq_true rfl⟩) [(h6, .inr (6, fM fl pn sl dr yn ra rp rs rd ry pk yk rg (F_X6_traced tc (3 : Int32)) q)), ((q 5), .inl (cI, 9, .inl ko)), ((q 6), .inl (cI, 9, .inl bo))] [0] rfl rfl (Eq.refl [h6]) rfl 0 rfl rfl rfl _ rfl (Nat.le_of_ble_eq_true rfl) ⟨Nat.zero_le _, Nat.zero_le _⟩ dX6_tell_24 ?_
      generalize hu24 : (F_X6_traced tc (3 : Int32)) = u24 at hf ⊢
      refine z_iload_n C dX6_tell_27 rfl 2 rfl ?_
      refine z_if_le (tgt := 36) C dX6_tell_28 (by decide) (fun h9 => absurd h9 (mt (zl_le (x := (ko k.toNatClampNeg)) (z := 0) (by decide)).mp (by have q0 := (zl_eq (x := (ko k.toNatClampNeg)) (z := 2) (by decide)).mp c19; omega))) (fun _ => ?_)
      refine z_aload_n C dX6_tell_31 rfl 0 rfl ?_
      refine z_iconst (v := (2 : Int32)) C dX6_tell_32 (by decide) ?_
      refine z_cVW (As := [.int (2 : Int32)]) C (c_X6_traced l D cI cO h6 q fl pn sl dr yn ra rp rs rd ry pk yk rg u24 (2 : Int32)) (cwV 1 C.2.2.2.2.1 gX6_tell_X6_traced rfl rfl rfl hdV_X6_traced ⟨Nat.le_of_ble_eq_true rfl, Nat.le_of_ble_eq_true rfl⟩) [(h6, .inr (6, fM fl pn sl dr yn ra rp rs rd ry pk yk rg (F_X6_traced u24 (2 : Int32)) q)), ((q 5), .inl (cI, 9, .inl ko)), ((q 6), .inl (cI, 9, .inl bo))] [0] rfl rfl (Eq.refl [h6]) rfl 0 rfl rfl rfl _ rfl (Nat.le_of_ble_eq_true rfl) ⟨Nat.zero_le _, Nat.zero_le _⟩ dX6_tell_33 ?_
      generalize hu33 : (F_X6_traced u24 (2 : Int32)) = u33 at hf ⊢
      refine z_aload_n C dX6_tell_36 rfl 0 rfl ?_
      refine z_iconst (v := (1 : Int32)) C dX6_tell_37 (by decide) ?_
      refine z_cVW (As := [.int (1 : Int32)]) C (c_X6_traced l D cI cO h6 q fl pn sl dr yn ra rp rs rd ry pk yk rg u33 (1 : Int32)) (cwV 1 C.2.2.2.2.1 gX6_tell_X6_traced rfl rfl rfl hdV_X6_traced ⟨Nat.le_of_ble_eq_true rfl, Nat.le_of_ble_eq_true rfl⟩) [(h6, .inr (6, fM fl pn sl dr yn ra rp rs rd ry pk yk rg (F_X6_traced u33 (1 : Int32)) q)), ((q 5), .inl (cI, 9, .inl ko)), ((q 6), .inl (cI, 9, .inl bo))] [0] rfl rfl (Eq.refl [h6]) rfl 0 rfl rfl rfl _ rfl (Nat.le_of_ble_eq_true rfl) ⟨Nat.zero_le _, Nat.zero_le _⟩ dX6_tell_38 ?_
      generalize hu38 : (F_X6_traced u33 (1 : Int32)) = u38 at hf ⊢
      refine z_iload_n C dX6_tell_41 rfl 2 rfl ?_
      refine z_iconst (v := (2 : Int32)) C dX6_tell_42 (by decide) ?_
      refine z_icmp_ne (tgt := 51) C dX6_tell_43 (by decide) (fun h9 => absurd c19 h9) (fun _ => ?_)
      refine z_aload_n C dX6_tell_46 rfl 0 rfl ?_
      refine z_iconst (v := (1 : Int32)) C dX6_tell_47 (by decide) ?_
      refine z_cVW (As := [.int (1 : Int32)]) C (c_X6_traced l D cI cO h6 q fl pn sl dr yn ra rp rs rd ry pk yk rg u38 (1 : Int32)) (cwV 1 C.2.2.2.2.1 gX6_tell_X6_traced rfl rfl rfl hdV_X6_traced ⟨Nat.le_of_ble_eq_true rfl, Nat.le_of_ble_eq_true rfl⟩) [(h6, .inr (6, fM fl pn sl dr yn ra rp rs rd ry pk yk rg (F_X6_traced u38 (1 : Int32)) q)), ((q 5), .inl (cI, 9, .inl ko)), ((q 6), .inl (cI, 9, .inl bo))] [0] rfl rfl (Eq.refl [h6]) rfl 0 rfl rfl rfl _ rfl (Nat.le_of_ble_eq_true rfl) ⟨Nat.zero_le _, Nat.zero_le _⟩ dX6_tell_48 ?_
      generalize hu48 : (F_X6_traced u38 (1 : Int32)) = u48 at hf ⊢
      refine z_aload_n C dX6_tell_51 rfl 0 rfl ?_
      refine z_get (T := TX6) (v := .ref (q 6)) C i_X6_tell_6 0 rfl rfl 6 (by decide) m_X6_tell_2 rfl rfl dX6_tell_52 ?_
      refine z_iload_n C dX6_tell_55 rfl 1 rfl ?_
      refine z_ald C 2 rfl (by subst hu48 hu38 hu33 hu24 hu2; exact (noPin_ix hpn hnp c5)) dX6_tell_56 ?_
      refine z_istore_n C [(0, .ref h6), (1, .int k), (2, .int (ko k.toNatClampNeg)), (3, .int (bo k.toNatClampNeg))] dX6_tell_57 rfl (by decide) [1, 2, 3, 0] rfl ?_
      refine z_iload_n C dX6_tell_58 rfl 2 rfl ?_
      refine z_if_ne (tgt := 66) C dX6_tell_59 (by decide) (fun _ => ?_) (fun h9 => absurd h9 (mt (zl_eq (x := (ko k.toNatClampNeg)) (z := 0) (by decide)).mp (by have q0 := (zl_eq (x := (ko k.toNatClampNeg)) (z := 2) (by decide)).mp c19; omega)))
      refine z_iload_n C dX6_tell_66 rfl 2 rfl ?_
      refine z_iconst (v := (1 : Int32)) C dX6_tell_67 (by decide) ?_
      refine z_icmp_ne (tgt := 78) C dX6_tell_68 (by decide) (fun _ => ?_) (fun h9 => absurd h9 (mt (zl_eq (x := (ko k.toNatClampNeg)) (z := 1) (by decide)).mp (by have q0 := (zl_eq (x := (ko k.toNatClampNeg)) (z := 2) (by decide)).mp c19; omega)))
      refine z_iconst (v := (2 : Int32)) C dX6_tell_78 (by decide) ?_
      refine z_iload_n C dX6_tell_79 rfl 3 rfl ?_
      refine z_imul C dX6_tell_80 ?_
      refine z_bipush (v := (100 : Int32)) C dX6_tell_81 (by decide) ?_
      refine z_iadd C dX6_tell_83 ?_
      exact z_iretW C hr hlk (by rw [hf]) (by rw [hf]) dX6_tell_84
  · rw [if_neg c5] at hf
    have b5 := c5
    rw [← hu2] at c5
    refine z_iconst (v := (-1 : Int32)) C dX6_tell_8 (by decide) ?_
    exact z_iretW C hr hlk (by rw [hf]) (by rw [hf]) dX6_tell_9
-- X6_splash
theorem i_X6_splash_6 : ∀ w ∈ u_ws RX6 TX6 30, w ∈ wsX6_splash := by decide +kernel
theorem m_X6_splash_1 : Cond.fieldLink RX6 7 "WishPinsModel" "kindOf" "[I" ∈ wsX6_splash := List.mem_of_getElem? (i := 1) rfl
def F_X6_splash (pn : Int32) (tc : Int32) (ko : Nat → Int32) (k : Int32) : Int32 × Int32 :=
  (if (F_X6_noPin pn k) = 0 then (if (ko k.toNatClampNeg) = (2 : Int32) then ((50 : Int32), (F_X6_traced tc (5 : Int32))) else (k, (F_X6_traced tc (4 : Int32)))) else ((-1 : Int32), tc))
set_option maxHeartbeats 4000000 in
set_option maxRecDepth 100000 in
theorem c_X6_splash (l : Launch) (D : va_G) (cI cO : ClassId) (h6 : Nat) (q : Nat → Nat) (fl : Int32) (pn : Int32) (sl : Int32) (dr : Int32) (yn : Int32) (ra : Int32) (rp : Int32) (rs : Int32) (rd : Int32) (ry : Int32) (pk : Int32) (yk : Int32) (rg : Int32) (tc : Int32) (ko : Nat → Int32) (k : Int32) (np : Nat) (hpn : pn = nI np) (hnp : np ≤ 9) : zW l yX6_splash wsX6_splash ({ frames := 2, cells := 0, slots := 0, locals := 46 } : Room) D cI cO [.ref h6, .int k] [(h6, .inr (6, fM fl pn sl dr yn ra rp rs rd ry pk yk rg tc q)), ((q 5), .inl (cI, 9, .inl ko))] [(h6, .inr (6, fM fl pn sl dr yn ra rp rs rd ry pk yk rg ((F_X6_splash pn tc ko k).2) q)), ((q 5), .inl (cI, 9, .inl ko))] (some (.int ((F_X6_splash pn tc ko k).1))) := by
  refine zW_of (nL := 2) (cc := cX6_splash) (ret := some .int) (lv := [(0, .ref h6), (1, .int k)]) (by decide +kernel) rfl (Nat.le_of_ble_eq_true rfl) rfl (fun p e s m args below meth c C hr hlk => ?_)
  have hf := F_X6_splash.eq_1 pn tc ko k
  refine z_aload_n C dX6_splash_0 rfl 0 rfl ?_
  refine z_iload_n C dX6_splash_1 rfl 1 rfl ?_
  refine z_cVR (As := [.int k]) C (c_X6_noPin l D cI cO h6 q fl pn sl dr yn ra rp rs rd ry pk yk rg tc k) (cwV 1 C.2.2.2.2.1 gX6_splash_X6_noPin rfl rfl rfl hdV_X6_noPin ⟨Nat.le_of_ble_eq_true rfl, Nat.le_of_ble_eq_true rfl⟩) [0] rfl rfl 0 rfl rfl rfl _ rfl (Nat.le_of_ble_eq_true rfl) ⟨Nat.zero_le _, Nat.zero_le _⟩ dX6_splash_2 ?_
  generalize hu2 : (F_X6_noPin pn k) = u2 at hf ⊢
  refine z_if_eq (tgt := 10) C dX6_splash_5 (by decide) (fun c5 => ?_) (fun c5 => ?_)
  · rw [if_pos c5] at hf
    have b5 := c5
    rw [← hu2] at c5
    refine z_aload_n C dX6_splash_10 rfl 0 rfl ?_
    refine z_aload_n C dX6_splash_11 rfl 0 rfl ?_
    refine z_get (T := TX6) (v := .ref (q 5)) C i_X6_splash_6 0 rfl rfl 5 (by decide) m_X6_splash_1 rfl rfl dX6_splash_12 ?_
    refine z_iload_n C dX6_splash_15 rfl 1 rfl ?_
    refine z_ald C 1 rfl (by subst hu2; exact (noPin_ix hpn hnp c5)) dX6_splash_16 ?_
    refine z_iconst (v := (2 : Int32)) C dX6_splash_17 (by decide) ?_
    refine z_icmp_ne (tgt := 25) C dX6_splash_18 (by decide) (fun c18 => ?_) (fun c18 => ?_)
    · rw [if_neg c18] at hf
      refine z_iconst (v := (4 : Int32)) C dX6_splash_25 (by decide) ?_
      refine z_cVW (As := [.int (4 : Int32)]) C (c_X6_traced l D cI cO h6 q fl pn sl dr yn ra rp rs rd ry pk yk rg tc (4 : Int32)) (cwV 1 C.2.2.2.2.1 gX6_splash_X6_traced rfl rfl rfl hdV_X6_traced ⟨Nat.le_of_ble_eq_true rfl, Nat.le_of_ble_eq_true rfl⟩) [(h6, .inr (6, fM fl pn sl dr yn ra rp rs rd ry pk yk rg (F_X6_traced tc (4 : Int32)) q)), ((q 5), .inl (cI, 9, .inl ko))] [0] rfl rfl (Eq.refl [h6]) rfl 0 rfl rfl rfl _ rfl (Nat.le_of_ble_eq_true rfl) ⟨Nat.zero_le _, Nat.zero_le _⟩ dX6_splash_26 ?_
      generalize hu26 : (F_X6_traced tc (4 : Int32)) = u26 at hf ⊢
      refine z_aload_n C dX6_splash_29 rfl 0 rfl ?_
      refine z_get (T := TX6) (v := .ref (q 5)) C i_X6_splash_6 0 rfl rfl 5 (by decide) m_X6_splash_1 rfl rfl dX6_splash_30 ?_
      refine z_iload_n C dX6_splash_33 rfl 1 rfl ?_
      refine z_ald C 1 rfl (by subst hu26 hu2; exact (noPin_ix hpn hnp c5)) dX6_splash_34 ?_
      refine z_iconst (v := (2 : Int32)) C dX6_splash_35 (by decide) ?_
      refine z_icmp_ne (tgt := 44) C dX6_splash_36 (by decide) (fun _ => ?_) (fun h9 => absurd h9 c18)
      refine z_iload_n C dX6_splash_44 rfl 1 rfl ?_
      exact z_iretW C hr hlk (by rw [hf]) (by rw [hf]) dX6_splash_45
    · rw [if_pos c18] at hf
      refine z_iconst (v := (5 : Int32)) C dX6_splash_21 (by decide) ?_
      refine z_goto (tgt := 26) C dX6_splash_22 (by decide) ?_
      refine z_cVW (As := [.int (5 : Int32)]) C (c_X6_traced l D cI cO h6 q fl pn sl dr yn ra rp rs rd ry pk yk rg tc (5 : Int32)) (cwV 1 C.2.2.2.2.1 gX6_splash_X6_traced rfl rfl rfl hdV_X6_traced ⟨Nat.le_of_ble_eq_true rfl, Nat.le_of_ble_eq_true rfl⟩) [(h6, .inr (6, fM fl pn sl dr yn ra rp rs rd ry pk yk rg (F_X6_traced tc (5 : Int32)) q)), ((q 5), .inl (cI, 9, .inl ko))] [0] rfl rfl (Eq.refl [h6]) rfl 0 rfl rfl rfl _ rfl (Nat.le_of_ble_eq_true rfl) ⟨Nat.zero_le _, Nat.zero_le _⟩ dX6_splash_26 ?_
      generalize hu26 : (F_X6_traced tc (5 : Int32)) = u26 at hf ⊢
      refine z_aload_n C dX6_splash_29 rfl 0 rfl ?_
      refine z_get (T := TX6) (v := .ref (q 5)) C i_X6_splash_6 0 rfl rfl 5 (by decide) m_X6_splash_1 rfl rfl dX6_splash_30 ?_
      refine z_iload_n C dX6_splash_33 rfl 1 rfl ?_
      refine z_ald C 1 rfl (by subst hu26 hu2; exact (noPin_ix hpn hnp c5)) dX6_splash_34 ?_
      refine z_iconst (v := (2 : Int32)) C dX6_splash_35 (by decide) ?_
      refine z_icmp_ne (tgt := 44) C dX6_splash_36 (by decide) (fun h9 => absurd c18 h9) (fun _ => ?_)
      refine z_bipush (v := (50 : Int32)) C dX6_splash_39 (by decide) ?_
      refine z_goto (tgt := 45) C dX6_splash_41 (by decide) ?_
      exact z_iretW C hr hlk (by rw [hf]) (by rw [hf]) dX6_splash_45
  · rw [if_neg c5] at hf
    have b5 := c5
    rw [← hu2] at c5
    refine z_iconst (v := (-1 : Int32)) C dX6_splash_8 (by decide) ?_
    exact z_iretW C hr hlk (by rw [hf]) (by rw [hf]) dX6_splash_9
-- X6_as
theorem m_X6_as_1 : Cond.constantLong RX6 117 (2) ∈ wsX6_as := List.mem_of_getElem? (i := 1) rfl
theorem i_X6_as_6 : ∀ w ∈ u_ws RX6 TX6 30, w ∈ wsX6_as := by decide +kernel
theorem m_X6_as_2 : Cond.fieldLink RX6 7 "WishPinsModel" "kindOf" "[I" ∈ wsX6_as := List.mem_of_getElem? (i := 2) rfl
def F_X6_as (pn : Int32) (ko : Nat → Int32) (k : Int32) (w : Int32) : Int32 × Int32 :=
  (if (F_X6_noPin pn k) = 0 then (if (F_X6_in w.toInt64 (0 : Int64) (2 : Int64)) = 0 then ((F_X6_refused (-2 : Int32)).1, (F_X6_refused (-2 : Int32)).2) else (if (ko k.toNatClampNeg) < w then ((F_X6_failed (2 : Int32)).1, (F_X6_failed (2 : Int32)).2) else ((F_X6_refused (1 : Int32)).1, (F_X6_refused (1 : Int32)).2))) else ((F_X6_refused (-1 : Int32)).1, (F_X6_refused (-1 : Int32)).2))
set_option maxHeartbeats 4000000 in
set_option maxRecDepth 100000 in
theorem c_X6_as (l : Launch) (D : va_G) (cI cO : ClassId) (h6 : Nat) (q : Nat → Nat) (fl : Int32) (pn : Int32) (sl : Int32) (dr : Int32) (yn : Int32) (ra : Int32) (rp : Int32) (rs : Int32) (rd : Int32) (ry : Int32) (pk : Int32) (yk : Int32) (rg : Int32) (tc : Int32) (ko : Nat → Int32) (k : Int32) (w : Int32) (np : Nat) (hpn : pn = nI np) (hnp : np ≤ 9) : zW l yX6_as wsX6_as ({ frames := 2, cells := 0, slots := 0, locals := 46 } : Room) D cI cO [.ref h6, .int k, .int w] [(h6, .inr (6, fM fl pn sl dr yn ra rp rs rd ry pk yk rg tc q)), ((q 5), .inl (cI, 9, .inl ko))] [(h6, .inr (6, fM ((F_X6_as pn ko k w).2) pn sl dr yn ra rp rs rd ry pk yk rg tc q)), ((q 5), .inl (cI, 9, .inl ko))] (some (.int ((F_X6_as pn ko k w).1))) := by
  refine zW_of (nL := 3) (cc := cX6_as) (ret := some .int) (lv := [(0, .ref h6), (1, .int k), (2, .int w)]) (by decide +kernel) rfl (Nat.le_of_ble_eq_true rfl) rfl (fun p e s m args below meth c C hr hlk => ?_)
  have hf := F_X6_as.eq_1 pn ko k w
  refine z_aload_n C dX6_as_0 rfl 0 rfl ?_
  refine z_iload_n C dX6_as_1 rfl 1 rfl ?_
  refine z_cVR (As := [.int k]) C (c_X6_noPin l D cI cO h6 q fl pn sl dr yn ra rp rs rd ry pk yk rg tc k) (cwV 1 C.2.2.2.2.1 gX6_as_X6_noPin rfl rfl rfl hdV_X6_noPin ⟨Nat.le_of_ble_eq_true rfl, Nat.le_of_ble_eq_true rfl⟩) [0] rfl rfl 0 rfl rfl rfl _ rfl (Nat.le_of_ble_eq_true rfl) ⟨Nat.zero_le _, Nat.zero_le _⟩ dX6_as_2 ?_
  generalize hu2 : (F_X6_noPin pn k) = u2 at hf ⊢
  refine z_if_eq (tgt := 14) C dX6_as_5 (by decide) (fun c5 => ?_) (fun c5 => ?_)
  · rw [if_pos c5] at hf
    have b5 := c5
    rw [← hu2] at c5
    refine z_iload_n C dX6_as_14 rfl 2 rfl ?_
    refine z_i2l C dX6_as_15 ?_
    refine z_lconst (v := (0 : Int64)) C dX6_as_16 (by decide) ?_
    refine z_ldc2 C m_X6_as_1 dX6_as_17 ?_
    refine z_cSR (As := [.long w.toInt64, .long (0 : Int64), .long (2 : Int64)]) C (c_X6_in l D cI cO w.toInt64 (0 : Int64) (2 : Int64)) (va_cwS 3 C.2.2.2.2.1 gX6_as_X6_in rfl rfl rfl hdS_X6_in ⟨Nat.le_of_ble_eq_true rfl, Nat.le_of_ble_eq_true rfl⟩) [] rfl rfl rfl _ rfl (Nat.le_of_ble_eq_true rfl) ⟨Nat.zero_le _, Nat.zero_le _⟩ dX6_as_20 ?_
    generalize hu20 : (F_X6_in w.toInt64 (0 : Int64) (2 : Int64)) = u20 at hf ⊢
    refine z_if_ne (tgt := 33) C dX6_as_23 (by decide) (fun c23 => ?_) (fun c23 => ?_)
    · rw [if_neg c23] at hf
      have b23 := c23
      rw [← hu20] at c23
      refine z_aload_n C dX6_as_33 rfl 0 rfl ?_
      refine z_get (T := TX6) (v := .ref (q 5)) C i_X6_as_6 0 rfl rfl 5 (by decide) m_X6_as_2 rfl rfl dX6_as_34 ?_
      refine z_iload_n C dX6_as_37 rfl 1 rfl ?_
      refine z_ald C 1 rfl (by subst hu20 hu2; exact (noPin_ix hpn hnp c5)) dX6_as_38 ?_
      refine z_iload_n C dX6_as_39 rfl 2 rfl ?_
      refine z_icmp_lt (tgt := 51) C dX6_as_40 (by decide) (fun c40 => ?_) (fun c40 => ?_)
      · rw [if_pos c40] at hf
        refine z_aload_n C dX6_as_51 rfl 0 rfl ?_
        refine z_iconst (v := (2 : Int32)) C dX6_as_52 (by decide) ?_
        refine z_cVW (As := [.int (2 : Int32)]) C (c_X6_failed l D cI cO h6 q fl pn sl dr yn ra rp rs rd ry pk yk rg tc (2 : Int32)) (cwV 1 C.2.2.2.2.1 gX6_as_X6_failed rfl rfl rfl hdV_X6_failed ⟨Nat.le_of_ble_eq_true rfl, Nat.le_of_ble_eq_true rfl⟩) [(h6, .inr (6, fM ((F_X6_failed (2 : Int32)).2) pn sl dr yn ra rp rs rd ry pk yk rg tc q)), ((q 5), .inl (cI, 9, .inl ko))] [0] rfl rfl (Eq.refl [h6]) rfl 0 rfl rfl rfl _ rfl (Nat.le_of_ble_eq_true rfl) ⟨Nat.zero_le _, Nat.zero_le _⟩ dX6_as_53 ?_
        generalize hu53 : (F_X6_failed (2 : Int32)) = u53 at hf ⊢
        exact z_iretW C hr hlk (by rw [hf]) (by rw [hf]) dX6_as_56
      · rw [if_neg c40] at hf
        refine z_aload_n C dX6_as_43 rfl 0 rfl ?_
        refine z_iconst (v := (1 : Int32)) C dX6_as_44 (by decide) ?_
        refine z_cVW (As := [.int (1 : Int32)]) C (c_X6_refused l D cI cO h6 q fl pn sl dr yn ra rp rs rd ry pk yk rg tc (1 : Int32)) (cwV 1 C.2.2.2.2.1 gX6_as_X6_refused rfl rfl rfl hdV_X6_refused ⟨Nat.le_of_ble_eq_true rfl, Nat.le_of_ble_eq_true rfl⟩) [(h6, .inr (6, fM ((F_X6_refused (1 : Int32)).2) pn sl dr yn ra rp rs rd ry pk yk rg tc q)), ((q 5), .inl (cI, 9, .inl ko))] [0] rfl rfl (Eq.refl [h6]) rfl 0 rfl rfl rfl _ rfl (Nat.le_of_ble_eq_true rfl) ⟨Nat.zero_le _, Nat.zero_le _⟩ dX6_as_45 ?_
        generalize hu45 : (F_X6_refused (1 : Int32)) = u45 at hf ⊢
        refine z_goto (tgt := 56) C dX6_as_48 (by decide) ?_
        exact z_iretW C hr hlk (by rw [hf]) (by rw [hf]) dX6_as_56
    · rw [if_pos c23] at hf
      have b23 := c23
      rw [← hu20] at c23
      refine z_aload_n C dX6_as_26 rfl 0 rfl ?_
      refine z_bipush (v := (-2 : Int32)) C dX6_as_27 (by decide) ?_
      refine z_cVW (As := [.int (-2 : Int32)]) C (c_X6_refused l D cI cO h6 q fl pn sl dr yn ra rp rs rd ry pk yk rg tc (-2 : Int32)) (cwV 1 C.2.2.2.2.1 gX6_as_X6_refused rfl rfl rfl hdV_X6_refused ⟨Nat.le_of_ble_eq_true rfl, Nat.le_of_ble_eq_true rfl⟩) [(h6, .inr (6, fM ((F_X6_refused (-2 : Int32)).2) pn sl dr yn ra rp rs rd ry pk yk rg tc q)), ((q 5), .inl (cI, 9, .inl ko))] [0] rfl rfl (Eq.refl [h6]) rfl 0 rfl rfl rfl _ rfl (Nat.le_of_ble_eq_true rfl) ⟨Nat.zero_le _, Nat.zero_le _⟩ dX6_as_29 ?_
      generalize hu29 : (F_X6_refused (-2 : Int32)) = u29 at hf ⊢
      exact z_iretW C hr hlk (by rw [hf]) (by rw [hf]) dX6_as_32
  · rw [if_neg c5] at hf
    have b5 := c5
    rw [← hu2] at c5
    refine z_aload_n C dX6_as_8 rfl 0 rfl ?_
    refine z_iconst (v := (-1 : Int32)) C dX6_as_9 (by decide) ?_
    refine z_cVW (As := [.int (-1 : Int32)]) C (c_X6_refused l D cI cO h6 q fl pn sl dr yn ra rp rs rd ry pk yk rg tc (-1 : Int32)) (cwV 1 C.2.2.2.2.1 gX6_as_X6_refused rfl rfl rfl hdV_X6_refused ⟨Nat.le_of_ble_eq_true rfl, Nat.le_of_ble_eq_true rfl⟩) [(h6, .inr (6, fM ((F_X6_refused (-1 : Int32)).2) pn sl dr yn ra rp rs rd ry pk yk rg tc q)), ((q 5), .inl (cI, 9, .inl ko))] [0] rfl rfl (Eq.refl [h6]) rfl 0 rfl rfl rfl _ rfl (Nat.le_of_ble_eq_true rfl) ⟨Nat.zero_le _, Nat.zero_le _⟩ dX6_as_10 ?_
    generalize hu10 : (F_X6_refused (-1 : Int32)) = u10 at hf ⊢
    exact z_iretW C hr hlk (by rw [hf]) (by rw [hf]) dX6_as_13
-- X6_trace
theorem i_X6_trace_6 : ∀ w ∈ u_ws RX6 TX6 30, w ∈ wsX6_trace := by decide +kernel
theorem m_X6_trace_1 : Cond.fieldLink RX6 229 "WishPinsModel" "traceNow" "I" ∈ wsX6_trace := List.mem_of_getElem? (i := 1) rfl
def F_X6_trace (tc : Int32) : Int32 :=
  tc
set_option maxHeartbeats 4000000 in
set_option maxRecDepth 100000 in
theorem c_X6_trace (l : Launch) (D : va_G) (cI cO : ClassId) (h6 : Nat) (q : Nat → Nat) (fl : Int32) (pn : Int32) (sl : Int32) (dr : Int32) (yn : Int32) (ra : Int32) (rp : Int32) (rs : Int32) (rd : Int32) (ry : Int32) (pk : Int32) (yk : Int32) (rg : Int32) (tc : Int32) : zR l yX6_trace wsX6_trace ({ frames := 0, cells := 0, slots := 0, locals := 0 } : Room) D cI cO [.ref h6] [(h6, .inr (6, fM fl pn sl dr yn ra rp rs rd ry pk yk rg tc q))] (some (.int (F_X6_trace tc))) := by
  refine zR_of (nL := 1) (cc := cX6_trace) (ret := some .int) (lv := [(0, .ref h6)]) (by decide +kernel) rfl (Nat.le_of_ble_eq_true rfl) rfl (fun p e s m args below meth c C hr hlk => ?_)
  have hf := F_X6_trace.eq_1 tc
  refine z_aload_n C dX6_trace_0 rfl 0 rfl ?_
  refine z_get (T := TX6) (v := .int tc) C i_X6_trace_6 0 rfl rfl 29 (by decide) m_X6_trace_1 rfl rfl dX6_trace_1 ?_
  exact z_iretR C hr hlk (by rw [hf]) dX6_trace_4
-- X6_fault
theorem i_X6_fault_6 : ∀ w ∈ u_ws RX6 TX6 30, w ∈ wsX6_fault := by decide +kernel
theorem m_X6_fault_1 : Cond.fieldLink RX6 60 "WishPinsModel" "fault" "I" ∈ wsX6_fault := List.mem_of_getElem? (i := 1) rfl
def F_X6_fault (fl : Int32) : Int32 :=
  fl
set_option maxHeartbeats 4000000 in
set_option maxRecDepth 100000 in
theorem c_X6_fault (l : Launch) (D : va_G) (cI cO : ClassId) (h6 : Nat) (q : Nat → Nat) (fl : Int32) (pn : Int32) (sl : Int32) (dr : Int32) (yn : Int32) (ra : Int32) (rp : Int32) (rs : Int32) (rd : Int32) (ry : Int32) (pk : Int32) (yk : Int32) (rg : Int32) (tc : Int32) : zR l yX6_fault wsX6_fault ({ frames := 0, cells := 0, slots := 0, locals := 0 } : Room) D cI cO [.ref h6] [(h6, .inr (6, fM fl pn sl dr yn ra rp rs rd ry pk yk rg tc q))] (some (.int (F_X6_fault fl))) := by
  refine zR_of (nL := 1) (cc := cX6_fault) (ret := some .int) (lv := [(0, .ref h6)]) (by decide +kernel) rfl (Nat.le_of_ble_eq_true rfl) rfl (fun p e s m args below meth c C hr hlk => ?_)
  have hf := F_X6_fault.eq_1 fl
  refine z_aload_n C dX6_fault_0 rfl 0 rfl ?_
  refine z_get (T := TX6) (v := .int fl) C i_X6_fault_6 0 rfl rfl 0 (by decide) m_X6_fault_1 rfl rfl dX6_fault_1 ?_
  exact z_iretR C hr hlk (by rw [hf]) dX6_fault_4
-- X6_many
theorem i_X6_many_6 : ∀ w ∈ u_ws RX6 TX6 30, w ∈ wsX6_many := by decide +kernel
theorem m_X6_many_1 : Cond.fieldLink RX6 68 "WishPinsModel" "pins" "I" ∈ wsX6_many := List.mem_of_getElem? (i := 1) rfl
theorem m_X6_many_2 : Cond.fieldLink RX6 126 "WishPinsModel" "slopeNow" "I" ∈ wsX6_many := List.mem_of_getElem? (i := 2) rfl
theorem m_X6_many_3 : Cond.fieldLink RX6 129 "WishPinsModel" "driftNow" "I" ∈ wsX6_many := List.mem_of_getElem? (i := 3) rfl
theorem m_X6_many_4 : Cond.fieldLink RX6 132 "WishPinsModel" "yearNow" "I" ∈ wsX6_many := List.mem_of_getElem? (i := 4) rfl
theorem m_X6_many_5 : Cond.fieldLink RX6 135 "WishPinsModel" "readings" "I" ∈ wsX6_many := List.mem_of_getElem? (i := 5) rfl
def F_X6_many (pn : Int32) (sl : Int32) (dr : Int32) (yn : Int32) (rg : Int32) (w : Int32) : Int32 :=
  (if w = (0 : Int32) then pn else (if w = (1 : Int32) then sl else (if w = (2 : Int32) then dr else (if w = (3 : Int32) then yn else (if w = (4 : Int32) then rg else (-2 : Int32))))))
set_option maxHeartbeats 4000000 in
set_option maxRecDepth 100000 in
theorem c_X6_many (l : Launch) (D : va_G) (cI cO : ClassId) (h6 : Nat) (q : Nat → Nat) (fl : Int32) (pn : Int32) (sl : Int32) (dr : Int32) (yn : Int32) (ra : Int32) (rp : Int32) (rs : Int32) (rd : Int32) (ry : Int32) (pk : Int32) (yk : Int32) (rg : Int32) (tc : Int32) (w : Int32) : zR l yX6_many wsX6_many ({ frames := 0, cells := 0, slots := 0, locals := 0 } : Room) D cI cO [.ref h6, .int w] [(h6, .inr (6, fM fl pn sl dr yn ra rp rs rd ry pk yk rg tc q))] (some (.int (F_X6_many pn sl dr yn rg w))) := by
  refine zR_of (nL := 2) (cc := cX6_many) (ret := some .int) (lv := [(0, .ref h6), (1, .int w)]) (by decide +kernel) rfl (Nat.le_of_ble_eq_true rfl) rfl (fun p e s m args below meth c C hr hlk => ?_)
  have hf := F_X6_many.eq_1 pn sl dr yn rg w
  refine z_iload_n C dX6_many_0 rfl 1 rfl ?_
  by_cases c1_0 : w = (0 : Int32)
  · rw [if_pos c1_0] at hf
    refine z_tabIn (tgt := 36) C dX6_many_1 (by rw [c1_0]; decide) (by rw [c1_0]; decide) (by rw [c1_0] <;> rfl) (by decide) ?_
    refine z_aload_n C dX6_many_36 rfl 0 rfl ?_
    refine z_get (T := TX6) (v := .int pn) C i_X6_many_6 0 rfl rfl 1 (by decide) m_X6_many_1 rfl rfl dX6_many_37 ?_
    exact z_iretR C hr hlk (by rw [hf]) dX6_many_40
  rw [if_neg c1_0] at hf
  by_cases c1_1 : w = (1 : Int32)
  · rw [if_pos c1_1] at hf
    refine z_tabIn (tgt := 41) C dX6_many_1 (by rw [c1_1]; decide) (by rw [c1_1]; decide) (by rw [c1_1] <;> rfl) (by decide) ?_
    refine z_aload_n C dX6_many_41 rfl 0 rfl ?_
    refine z_get (T := TX6) (v := .int sl) C i_X6_many_6 0 rfl rfl 2 (by decide) m_X6_many_2 rfl rfl dX6_many_42 ?_
    exact z_iretR C hr hlk (by rw [hf]) dX6_many_45
  rw [if_neg c1_1] at hf
  by_cases c1_2 : w = (2 : Int32)
  · rw [if_pos c1_2] at hf
    refine z_tabIn (tgt := 46) C dX6_many_1 (by rw [c1_2]; decide) (by rw [c1_2]; decide) (by rw [c1_2] <;> rfl) (by decide) ?_
    refine z_aload_n C dX6_many_46 rfl 0 rfl ?_
    refine z_get (T := TX6) (v := .int dr) C i_X6_many_6 0 rfl rfl 3 (by decide) m_X6_many_3 rfl rfl dX6_many_47 ?_
    exact z_iretR C hr hlk (by rw [hf]) dX6_many_50
  rw [if_neg c1_2] at hf
  by_cases c1_3 : w = (3 : Int32)
  · rw [if_pos c1_3] at hf
    refine z_tabIn (tgt := 51) C dX6_many_1 (by rw [c1_3]; decide) (by rw [c1_3]; decide) (by rw [c1_3] <;> rfl) (by decide) ?_
    refine z_aload_n C dX6_many_51 rfl 0 rfl ?_
    refine z_get (T := TX6) (v := .int yn) C i_X6_many_6 0 rfl rfl 4 (by decide) m_X6_many_4 rfl rfl dX6_many_52 ?_
    exact z_iretR C hr hlk (by rw [hf]) dX6_many_55
  rw [if_neg c1_3] at hf
  by_cases c1_4 : w = (4 : Int32)
  · rw [if_pos c1_4] at hf
    refine z_tabIn (tgt := 56) C dX6_many_1 (by rw [c1_4]; decide) (by rw [c1_4]; decide) (by rw [c1_4] <;> rfl) (by decide) ?_
    refine z_aload_n C dX6_many_56 rfl 0 rfl ?_
    refine z_get (T := TX6) (v := .int rg) C i_X6_many_6 0 rfl rfl 22 (by decide) m_X6_many_5 rfl rfl dX6_many_57 ?_
    exact z_iretR C hr hlk (by rw [hf]) dX6_many_60
  rw [if_neg c1_4] at hf
  refine z_tabOut (tgt := 61) C dX6_many_1 (by have n0 := zne c1_0 (z := 0) (by decide); have n1 := zne c1_1 (z := 1) (by decide); have n2 := zne c1_2 (z := 2) (by decide); have n3 := zne c1_3 (z := 3) (by decide); have n4 := zne c1_4 (z := 4) (by decide); omega) (by decide) ?_
  refine z_bipush (v := (-2 : Int32)) C dX6_many_61 (by decide) ?_
  exact z_iretR C hr hlk (by rw [hf]) dX6_many_63
