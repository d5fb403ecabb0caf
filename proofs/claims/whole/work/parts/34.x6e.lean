-- X6_cellsBarred
theorem i_X6_cellsBarred_6 : ∀ w ∈ u_ws RX6 TX6 30, w ∈ wsX6_cellsBarred := by decide +kernel
theorem m_X6_cellsBarred_1 : Cond.fieldLink RX6 46 "WishPinsModel" "sheetSize" "[I" ∈ wsX6_cellsBarred := List.mem_of_getElem? (i := 1) rfl
theorem m_X6_cellsBarred_2 : Cond.fieldLink RX6 49 "WishPinsModel" "sheetLane" "[I" ∈ wsX6_cellsBarred := List.mem_of_getElem? (i := 2) rfl
def F_X6_cellsBarred (fl : Int32) (ss : Nat → Int32) (sa : Nat → Int32) (k : Int32) (la : Int32) (i : Int32) (n : Int64) : Int32 × Int32 :=
  (if (ss k.toNatClampNeg) < 0 then ((F_X6_failed (1 : Int32)).1, (F_X6_failed (1 : Int32)).2) else (if (sa k.toNatClampNeg) = la then (if 0 ≤ (lg_cmp n (0 : Int64)) then (if (F_X6_isBeyond i n (ss k.toNatClampNeg)) = 0 then ((0 : Int32), fl) else ((F_X6_failed (3 : Int32)).1, (F_X6_failed (3 : Int32)).2)) else ((F_X6_failed (4 : Int32)).1, (F_X6_failed (4 : Int32)).2)) else ((F_X6_failed (2 : Int32)).1, (F_X6_failed (2 : Int32)).2)))
set_option maxHeartbeats 4000000 in
set_option maxRecDepth 100000 in
theorem c_X6_cellsBarred (l : Launch) (D : va_G) (cI cO : ClassId) (h6 : Nat) (q : Nat → Nat) (fl : Int32) (pn : Int32) (sl : Int32) (dr : Int32) (yn : Int32) (ra : Int32) (rp : Int32) (rs : Int32) (rd : Int32) (ry : Int32) (pk : Int32) (yk : Int32) (rg : Int32) (tc : Int32) (ss : Nat → Int32) (sa : Nat → Int32) (k : Int32) (la : Int32) (i : Int32) (n : Int64) (hk4 : vp_in k 4) : zW l yX6_cellsBarred wsX6_cellsBarred ({ frames := 1, cells := 0, slots := 0, locals := 23 } : Room) D cI cO [.ref h6, .int k, .int la, .int i, .long n] [(h6, .inr (6, fM fl pn sl dr yn ra rp rs rd ry pk yk rg tc q)), ((q 25), .inl (cI, 4, .inl ss)), ((q 26), .inl (cI, 4, .inl sa))] [(h6, .inr (6, fM ((F_X6_cellsBarred fl ss sa k la i n).2) pn sl dr yn ra rp rs rd ry pk yk rg tc q)), ((q 25), .inl (cI, 4, .inl ss)), ((q 26), .inl (cI, 4, .inl sa))] (some (.int ((F_X6_cellsBarred fl ss sa k la i n).1))) := by
  refine zW_of (nL := 6) (cc := cX6_cellsBarred) (ret := some .int) (lv := [(0, .ref h6), (1, .int k), (2, .int la), (3, .int i), (4, .long n)]) (by decide +kernel) rfl (Nat.le_of_ble_eq_true rfl) rfl (fun p e s m args below meth c C hr hlk => ?_)
  have hf := F_X6_cellsBarred.eq_1 fl ss sa k la i n
  refine z_aload_n C dX6_cellsBarred_0 rfl 0 rfl ?_
  refine z_get (T := TX6) (v := .ref (q 25)) C i_X6_cellsBarred_6 0 rfl rfl 25 (by decide) m_X6_cellsBarred_1 rfl rfl dX6_cellsBarred_1 ?_
  refine z_iload_n C dX6_cellsBarred_4 rfl 1 rfl ?_
  refine z_ald C 1 rfl hk4 dX6_cellsBarred_5 ?_
  refine z_if_lt (tgt := 25) C dX6_cellsBarred_6 (by decide) (fun c6 => ?_) (fun c6 => ?_)
  · rw [if_pos c6] at hf
    refine z_aload_n C dX6_cellsBarred_25 rfl 0 rfl ?_
    refine z_get (T := TX6) (v := .ref (q 25)) C i_X6_cellsBarred_6 0 rfl rfl 25 (by decide) m_X6_cellsBarred_1 rfl rfl dX6_cellsBarred_26 ?_
    refine z_iload_n C dX6_cellsBarred_29 rfl 1 rfl ?_
    refine z_ald C 1 rfl hk4 dX6_cellsBarred_30 ?_
    refine z_if_ge (tgt := 40) C dX6_cellsBarred_31 (by decide) (fun h9 => absurd h9 (Int32.not_le.mpr c6)) (fun _ => ?_)
    refine z_aload_n C dX6_cellsBarred_34 rfl 0 rfl ?_
    refine z_iconst (v := (1 : Int32)) C dX6_cellsBarred_35 (by decide) ?_
    refine z_cVW (As := [.int (1 : Int32)]) C (c_X6_failed l D cI cO h6 q fl pn sl dr yn ra rp rs rd ry pk yk rg tc (1 : Int32)) (cwV 1 C.2.2.2.2.1 gX6_cellsBarred_X6_failed rfl rfl rfl hdV_X6_failed ⟨Nat.le_of_ble_eq_true rfl, Nat.le_of_ble_eq_true rfl⟩) [(h6, .inr (6, fM ((F_X6_failed (1 : Int32)).2) pn sl dr yn ra rp rs rd ry pk yk rg tc q)), ((q 25), .inl (cI, 4, .inl ss)), ((q 26), .inl (cI, 4, .inl sa))] [0] rfl rfl (Eq.refl [h6]) rfl 0 rfl rfl rfl _ rfl (Nat.le_of_ble_eq_true rfl) ⟨Nat.zero_le _, Nat.zero_le _⟩ dX6_cellsBarred_36 ?_
    generalize hu36 : (F_X6_failed (1 : Int32)) = u36 at hf ⊢
    exact z_iretW C hr hlk (by rw [hf]) (by rw [hf]) dX6_cellsBarred_39
  · rw [if_neg c6] at hf
    refine z_aload_n C dX6_cellsBarred_9 rfl 0 rfl ?_
    refine z_get (T := TX6) (v := .ref (q 26)) C i_X6_cellsBarred_6 0 rfl rfl 26 (by decide) m_X6_cellsBarred_2 rfl rfl dX6_cellsBarred_10 ?_
    refine z_iload_n C dX6_cellsBarred_13 rfl 1 rfl ?_
    refine z_ald C 2 rfl hk4 dX6_cellsBarred_14 ?_
    refine z_iload_n C dX6_cellsBarred_15 rfl 2 rfl ?_
    refine z_icmp_eq (tgt := 25) C dX6_cellsBarred_16 (by decide) (fun c16 => ?_) (fun c16 => ?_)
    · rw [if_pos c16] at hf
      refine z_aload_n C dX6_cellsBarred_25 rfl 0 rfl ?_
      refine z_get (T := TX6) (v := .ref (q 25)) C i_X6_cellsBarred_6 0 rfl rfl 25 (by decide) m_X6_cellsBarred_1 rfl rfl dX6_cellsBarred_26 ?_
      refine z_iload_n C dX6_cellsBarred_29 rfl 1 rfl ?_
      refine z_ald C 1 rfl hk4 dX6_cellsBarred_30 ?_
      refine z_if_ge (tgt := 40) C dX6_cellsBarred_31 (by decide) (fun _ => ?_) (fun h9 => absurd (Int32.not_lt.mp c6) h9)
      refine z_lload C dX6_cellsBarred_40 4 rfl ?_
      refine z_lconst (v := (0 : Int64)) C dX6_cellsBarred_42 (by decide) ?_
      refine z_lcmp C dX6_cellsBarred_43 ?_
      refine z_if_ge (tgt := 53) C dX6_cellsBarred_44 (by decide) (fun c44 => ?_) (fun c44 => ?_)
      · rw [if_pos c44] at hf
        refine z_iload_n C dX6_cellsBarred_53 rfl 3 rfl ?_
        refine z_lload C dX6_cellsBarred_54 4 rfl ?_
        refine z_aload_n C dX6_cellsBarred_56 rfl 0 rfl ?_
        refine z_get (T := TX6) (v := .ref (q 25)) C i_X6_cellsBarred_6 0 rfl rfl 25 (by decide) m_X6_cellsBarred_1 rfl rfl dX6_cellsBarred_57 ?_
        refine z_iload_n C dX6_cellsBarred_60 rfl 1 rfl ?_
        refine z_ald C 1 rfl hk4 dX6_cellsBarred_61 ?_
        refine z_cSR (As := [.int i, .long n, .int (ss k.toNatClampNeg)]) C (c_X6_isBeyond l D cI cO i n (ss k.toNatClampNeg)) (va_cwS 3 C.2.2.2.2.1 gX6_cellsBarred_X6_isBeyond rfl rfl rfl hdS_X6_isBeyond ⟨Nat.le_of_ble_eq_true rfl, Nat.le_of_ble_eq_true rfl⟩) [] rfl rfl rfl _ rfl (Nat.le_of_ble_eq_true rfl) ⟨Nat.zero_le _, Nat.zero_le _⟩ dX6_cellsBarred_62 ?_
        generalize hu62 : (F_X6_isBeyond i n (ss k.toNatClampNeg)) = u62 at hf ⊢
        refine z_if_eq (tgt := 76) C dX6_cellsBarred_65 (by decide) (fun c65 => ?_) (fun c65 => ?_)
        · rw [if_pos c65] at hf
          have b65 := c65
          rw [← hu62] at c65
          refine z_iconst (v := (0 : Int32)) C dX6_cellsBarred_76 (by decide) ?_
          exact z_iretW C hr hlk (by rw [hf]) (by rw [hf]) dX6_cellsBarred_77
        · rw [if_neg c65] at hf
          have b65 := c65
          rw [← hu62] at c65
          refine z_aload_n C dX6_cellsBarred_68 rfl 0 rfl ?_
          refine z_iconst (v := (3 : Int32)) C dX6_cellsBarred_69 (by decide) ?_
          refine z_cVW (As := [.int (3 : Int32)]) C (c_X6_failed l D cI cO h6 q fl pn sl dr yn ra rp rs rd ry pk yk rg tc (3 : Int32)) (cwV 1 C.2.2.2.2.1 gX6_cellsBarred_X6_failed rfl rfl rfl hdV_X6_failed ⟨Nat.le_of_ble_eq_true rfl, Nat.le_of_ble_eq_true rfl⟩) [(h6, .inr (6, fM ((F_X6_failed (3 : Int32)).2) pn sl dr yn ra rp rs rd ry pk yk rg tc q)), ((q 25), .inl (cI, 4, .inl ss)), ((q 26), .inl (cI, 4, .inl sa))] [0] rfl rfl (Eq.refl [h6]) rfl 0 rfl rfl rfl _ rfl (Nat.le_of_ble_eq_true rfl) ⟨Nat.zero_le _, Nat.zero_le _⟩ dX6_cellsBarred_70 ?_
          generalize hu70 : (F_X6_failed (3 : Int32)) = u70 at hf ⊢
          refine z_goto (tgt := 77) C dX6_cellsBarred_73 (by decide) ?_
          exact z_iretW C hr hlk (by rw [hf]) (by rw [hf]) dX6_cellsBarred_77
      · rw [if_neg c44] at hf
        refine z_aload_n C dX6_cellsBarred_47 rfl 0 rfl ?_
        refine z_iconst (v := (4 : Int32)) C dX6_cellsBarred_48 (by decide) ?_
        refine z_cVW (As := [.int (4 : Int32)]) C (c_X6_failed l D cI cO h6 q fl pn sl dr yn ra rp rs rd ry pk yk rg tc (4 : Int32)) (cwV 1 C.2.2.2.2.1 gX6_cellsBarred_X6_failed rfl rfl rfl hdV_X6_failed ⟨Nat.le_of_ble_eq_true rfl, Nat.le_of_ble_eq_true rfl⟩) [(h6, .inr (6, fM ((F_X6_failed (4 : Int32)).2) pn sl dr yn ra rp rs rd ry pk yk rg tc q)), ((q 25), .inl (cI, 4, .inl ss)), ((q 26), .inl (cI, 4, .inl sa))] [0] rfl rfl (Eq.refl [h6]) rfl 0 rfl rfl rfl _ rfl (Nat.le_of_ble_eq_true rfl) ⟨Nat.zero_le _, Nat.zero_le _⟩ dX6_cellsBarred_49 ?_
        generalize hu49 : (F_X6_failed (4 : Int32)) = u49 at hf ⊢
        exact z_iretW C hr hlk (by rw [hf]) (by rw [hf]) dX6_cellsBarred_52
    · rw [if_neg c16] at hf
      refine z_aload_n C dX6_cellsBarred_19 rfl 0 rfl ?_
      refine z_iconst (v := (2 : Int32)) C dX6_cellsBarred_20 (by decide) ?_
      refine z_cVW (As := [.int (2 : Int32)]) C (c_X6_failed l D cI cO h6 q fl pn sl dr yn ra rp rs rd ry pk yk rg tc (2 : Int32)) (cwV 1 C.2.2.2.2.1 gX6_cellsBarred_X6_failed rfl rfl rfl hdV_X6_failed ⟨Nat.le_of_ble_eq_true rfl, Nat.le_of_ble_eq_true rfl⟩) [(h6, .inr (6, fM ((F_X6_failed (2 : Int32)).2) pn sl dr yn ra rp rs rd ry pk yk rg tc q)), ((q 25), .inl (cI, 4, .inl ss)), ((q 26), .inl (cI, 4, .inl sa))] [0] rfl rfl (Eq.refl [h6]) rfl 0 rfl rfl rfl _ rfl (Nat.le_of_ble_eq_true rfl) ⟨Nat.zero_le _, Nat.zero_le _⟩ dX6_cellsBarred_21 ?_
      generalize hu21 : (F_X6_failed (2 : Int32)) = u21 at hf ⊢
      exact z_iretW C hr hlk (by rw [hf]) (by rw [hf]) dX6_cellsBarred_24
theorem barred_in {fl : Int32} {ss : Nat → Int32} {sa : Nat → Int32} {k : Int32} {la : Int32} {i : Int32} {n : Int64} {k0 : Nat} (hk : k = nI k0) (h4 : k0 < 4) (h : 0 ≤ (F_X6_cellsBarred fl ss sa k la i n).1) : ¬ ss k0 < 0 ∧ F_X6_isBeyond i n (ss k0) = 0 := by
  have ek : k.toNatClampNeg = k0 := by rw [hk]; exact nI_clamp (by omega)
  rw [F_X6_cellsBarred, ek] at h
  by_cases c1 : ss k0 < 0
  · rw [if_pos c1] at h
    revert h
    first | exact fun h => absurd h (by decide) | (split <;> exact fun h => absurd h (by decide))
  · rw [if_neg c1] at h
    refine ⟨c1, ?_⟩
    by_cases c2 : sa k0 = la
    · rw [if_pos c2] at h
      by_cases c3 : 0 ≤ lg_cmp n (0 : Int64)
      · rw [if_pos c3] at h
        by_cases c4 : F_X6_isBeyond i n (ss k0) = 0
        · exact c4
        · rw [if_neg c4] at h; exact absurd h (by decide)
      · rw [if_neg c3] at h; exact absurd h (by decide)
    · rw [if_neg c2] at h; exact absurd h (by decide)
theorem rw_l80 {sh : Nat → Int32} {tf tn : Int32} {n0 : Nat} (hn0 : tn = nI n0) (hb : n0 ≤ 240) (K : Int32 → Int32 → Int32 → Int32 → (Nat → Int32) → (Nat → Int32) → (Nat → Int32) → Int32 × Int32 × Int32 × Int32 × Int32 × Int32 × (Nat → Int32) × (Nat → Int32) × (Nat → Int32)) (hK : ∀ x3 ry ra rp ka ba ta, (∃ j : Nat, rp = nI j ∧ j ≤ 9) → ∃ j : Nat, (K x3 ry ra rp ka ba ta).2.2.2.2.2.1 = nI j ∧ j ≤ 9) : ∀ (d : Nat) (x3 ry ra rp : Int32) (ka ba ta : Nat → Int32), ¬ ra < 0 → (∃ j : Nat, rp = nI j ∧ j ≤ 9) → ∃ j : Nat, (F_X6_readsWell_l80 sh tf tn K d x3 ry ra rp ka ba ta).2.2.2.2.2.1 = nI j ∧ j ≤ 9 := by
  intro d
  induction d with
  | zero => intro x3 ry ra rp ka ba ta hra hj; rw [F_X6_readsWell_l80]; exact hK _ _ _ _ _ _ _ hj
  | succ d ih =>
    intro x3 ry ra rp ka ba ta hra hj
    obtain ⟨j, h1, h2⟩ := hj
    obtain ⟨g1, j2, g2, g3, -⟩ := readsPin_ok (ry := ry) (ka := ka) (ba := ba) (ta := ta) (sh := sh) (tf := tf) hn0 hb hra h1 h2
    rw [F_X6_readsWell_l80]
    split
    · exact hK _ _ _ _ _ _ _ ⟨j, h1, h2⟩
    · split
      · exact ih _ _ _ _ _ _ _ g1 ⟨j2, g2, g3⟩
      · split
        · exact hK _ _ _ _ _ _ _ ⟨j, h1, h2⟩
        · exact ih _ _ _ _ _ _ _ g1 ⟨j2, g2, g3⟩
theorem readsWell_rp {rs : Int32} {rd : Int32} {ka : Nat → Int32} {ba : Nat → Int32} {ta : Nat → Int32} {sh : Nat → Int32} {tf : Int32} {tn : Int32} {n0 : Nat} (hn0 : tn = nI n0) (hb : n0 ≤ 240) : ∃ j : Nat, (F_X6_readsWell rs rd ka ba ta sh tf tn).2.2.2.2.2.1 = nI j ∧ j ≤ 9 := by
  rw [F_X6_readsWell]
  split
  · rename_i c1
    have i1 := z_inc (ra := 0) hn0 hb (by decide) (code_lt c1 (by decide))
    have i2 := figure_ra (tf := tf) (sh := sh) (ah := 0) (lw := 1) (hg := 5) hn0 hb (by decide) i1
    split <;> (rw [F_X6_readsWell_j79]; exact rw_l80 hn0 hb _ (fun _ _ _ _ _ _ _ h => h) _ _ _ _ _ _ _ _ (figure_ra hn0 hb (by decide) i2) ⟨0, rfl, by omega⟩)
  · exact ⟨0, rfl, by omega⟩
-- X6_well
theorem m_X6_well_1 : Cond.constantLong RX6 117 (2) ∈ wsX6_well := List.mem_of_getElem? (i := 1) rfl
theorem i_X6_well_6 : ∀ w ∈ u_ws RX6 TX6 30, w ∈ wsX6_well := by decide +kernel
theorem m_X6_well_3 : Cond.fieldLink RX6 82 "WishPinsModel" "readPins" "I" ∈ wsX6_well := List.mem_of_getElem? (i := 3) rfl
theorem m_X6_well_4 : Cond.fieldLink RX6 68 "WishPinsModel" "pins" "I" ∈ wsX6_well := List.mem_of_getElem? (i := 4) rfl
theorem m_X6_well_5 : Cond.fieldLink RX6 92 "WishPinsModel" "readSlope" "I" ∈ wsX6_well := List.mem_of_getElem? (i := 5) rfl
theorem m_X6_well_6 : Cond.fieldLink RX6 126 "WishPinsModel" "slopeNow" "I" ∈ wsX6_well := List.mem_of_getElem? (i := 6) rfl
theorem m_X6_well_7 : Cond.fieldLink RX6 95 "WishPinsModel" "readDrift" "I" ∈ wsX6_well := List.mem_of_getElem? (i := 7) rfl
theorem m_X6_well_8 : Cond.fieldLink RX6 129 "WishPinsModel" "driftNow" "I" ∈ wsX6_well := List.mem_of_getElem? (i := 8) rfl
theorem m_X6_well_9 : Cond.fieldLink RX6 89 "WishPinsModel" "readYear" "I" ∈ wsX6_well := List.mem_of_getElem? (i := 9) rfl
theorem m_X6_well_10 : Cond.fieldLink RX6 132 "WishPinsModel" "yearNow" "I" ∈ wsX6_well := List.mem_of_getElem? (i := 10) rfl
theorem m_X6_well_17 : Cond.fieldLink RX6 135 "WishPinsModel" "readings" "I" ∈ wsX6_well := List.mem_of_getElem? (i := 17) rfl
theorem m_X6_well_11 : Cond.fieldLink RX6 7 "WishPinsModel" "kindOf" "[I" ∈ wsX6_well := List.mem_of_getElem? (i := 11) rfl
theorem m_X6_well_12 : Cond.fieldLink RX6 19 "WishPinsModel" "readKind" "[I" ∈ wsX6_well := List.mem_of_getElem? (i := 12) rfl
theorem m_X6_well_13 : Cond.fieldLink RX6 13 "WishPinsModel" "bendOf" "[I" ∈ wsX6_well := List.mem_of_getElem? (i := 13) rfl
theorem m_X6_well_14 : Cond.fieldLink RX6 22 "WishPinsModel" "readBend" "[I" ∈ wsX6_well := List.mem_of_getElem? (i := 14) rfl
theorem m_X6_well_15 : Cond.fieldLink RX6 16 "WishPinsModel" "yearOf" "[I" ∈ wsX6_well := List.mem_of_getElem? (i := 15) rfl
theorem m_X6_well_16 : Cond.fieldLink RX6 25 "WishPinsModel" "readThrown" "[I" ∈ wsX6_well := List.mem_of_getElem? (i := 16) rfl
theorem m_X6_well_2 : Cond.fieldLink RX6 75 "WishPinsModel" "readAt" "I" ∈ wsX6_well := List.mem_of_getElem? (i := 2) rfl
def F_X6_well_k114 (rs : Int32) (rd : Int32) (ka : Nat → Int32) (ba : Nat → Int32) (ta : Nat → Int32) (sh : Nat → Int32) (k : Int32) (i : Int32) (n : Int32) (x6_114 : Int32) (ko_114 : Nat → Int32) (bo_114 : Nat → Int32) (yo_114 : Nat → Int32) : Int32 × Int32 × Int32 × Int32 × Int32 × Int32 × Int32 × Int32 × Int32 × Int32 × Int32 × Int32 × (Nat → Int32) × (Nat → Int32) × (Nat → Int32) × (Nat → Int32) × (Nat → Int32) × (Nat → Int32) :=
  ((F_X6_refused (F_X6_readsWell rs rd ka ba ta sh (((60 : Int32) * k) + i) n).2.2.2.2.2.1).1, (F_X6_refused (F_X6_readsWell rs rd ka ba ta sh (((60 : Int32) * k) + i) n).2.2.2.2.2.1).2, (F_X6_readsWell rs rd ka ba ta sh (((60 : Int32) * k) + i) n).2.2.2.2.2.1, (F_X6_readsWell rs rd ka ba ta sh (((60 : Int32) * k) + i) n).2.1, (F_X6_readsWell rs rd ka ba ta sh (((60 : Int32) * k) + i) n).2.2.1, (F_X6_readsWell rs rd ka ba ta sh (((60 : Int32) * k) + i) n).2.2.2.1, (F_X6_readsWell rs rd ka ba ta sh (((60 : Int32) * k) + i) n).2.1, (0 : Int32), (F_X6_readsWell rs rd ka ba ta sh (((60 : Int32) * k) + i) n).2.2.1, (F_X6_readsWell rs rd ka ba ta sh (((60 : Int32) * k) + i) n).2.2.2.1, (F_X6_readsWell rs rd ka ba ta sh (((60 : Int32) * k) + i) n).2.2.2.2.1, (F_X6_readsWell rs rd ka ba ta sh (((60 : Int32) * k) + i) n).2.2.2.2.2.1, ko_114, bo_114, yo_114, (F_X6_readsWell rs rd ka ba ta sh (((60 : Int32) * k) + i) n).2.2.2.2.2.2.1, (F_X6_readsWell rs rd ka ba ta sh (((60 : Int32) * k) + i) n).2.2.2.2.2.2.2.1, (F_X6_readsWell rs rd ka ba ta sh (((60 : Int32) * k) + i) n).2.2.2.2.2.2.2.2)
def F_X6_well_l114 (rs : Int32) (rd : Int32) (ka : Nat → Int32) (ba : Nat → Int32) (ta : Nat → Int32) (sh : Nat → Int32) (k : Int32) (i : Int32) (n : Int32) (K_ : Int32 → (Nat → Int32) → (Nat → Int32) → (Nat → Int32) → Int32 × Int32 × Int32 × Int32 × Int32 × Int32 × Int32 × Int32 × Int32 × Int32 × Int32 × Int32 × (Nat → Int32) × (Nat → Int32) × (Nat → Int32) × (Nat → Int32) × (Nat → Int32) × (Nat → Int32)) : Nat → Int32 → (Nat → Int32) → (Nat → Int32) → (Nat → Int32) → Int32 × Int32 × Int32 × Int32 × Int32 × Int32 × Int32 × Int32 × Int32 × Int32 × Int32 × Int32 × (Nat → Int32) × (Nat → Int32) × (Nat → Int32) × (Nat → Int32) × (Nat → Int32) × (Nat → Int32)
  | 0, x6_114, ko_114, bo_114, yo_114 => K_ x6_114 ko_114 bo_114 yo_114
  | d114 + 1, x6_114, ko_114, bo_114, yo_114 => (if (F_X6_readsWell rs rd ka ba ta sh (((60 : Int32) * k) + i) n).2.2.2.2.2.1 ≤ x6_114 then (K_ x6_114 ko_114 bo_114 yo_114) else (F_X6_well_l114 rs rd ka ba ta sh k i n K_ d114 (x6_114 + (1 : Int32)) (upd ko_114 x6_114.toNatClampNeg ((F_X6_readsWell rs rd ka ba ta sh (((60 : Int32) * k) + i) n).2.2.2.2.2.2.1 x6_114.toNatClampNeg)) (upd bo_114 x6_114.toNatClampNeg ((F_X6_readsWell rs rd ka ba ta sh (((60 : Int32) * k) + i) n).2.2.2.2.2.2.2.1 x6_114.toNatClampNeg)) (upd yo_114 x6_114.toNatClampNeg ((F_X6_readsWell rs rd ka ba ta sh (((60 : Int32) * k) + i) n).2.2.2.2.2.2.2.2 x6_114.toNatClampNeg))))
def F_X6_well (fl : Int32) (pn : Int32) (sl : Int32) (dr : Int32) (yn : Int32) (ra : Int32) (rp : Int32) (rs : Int32) (rd : Int32) (ry : Int32) (rg : Int32) (ko : Nat → Int32) (bo : Nat → Int32) (yo : Nat → Int32) (ka : Nat → Int32) (ba : Nat → Int32) (ta : Nat → Int32) (ss : Nat → Int32) (sa : Nat → Int32) (sh : Nat → Int32) (k : Int32) (la : Int32) (i : Int32) (n : Int32) : Int32 × Int32 × Int32 × Int32 × Int32 × Int32 × Int32 × Int32 × Int32 × Int32 × Int32 × Int32 × (Nat → Int32) × (Nat → Int32) × (Nat → Int32) × (Nat → Int32) × (Nat → Int32) × (Nat → Int32) :=
  (if (F_X6_noSheet k) = 0 then (if (F_X6_in la.toInt64 (0 : Int64) (2 : Int64)) = 0 then ((F_X6_refused (-2 : Int32)).1, (F_X6_refused (-2 : Int32)).2, pn, rs, rd, ry, sl, rg, dr, yn, ra, rp, ko, bo, yo, ka, ba, ta) else (if 0 ≤ (F_X6_cellsBarred fl ss sa k la i n.toInt64).1 then (if (F_X6_readsWell rs rd ka ba ta sh (((60 : Int32) * k) + i) n).1 = 0 then ((F_X6_refused ((-100 : Int32) - (F_X6_readsWell rs rd ka ba ta sh (((60 : Int32) * k) + i) n).2.2.2.2.1)).1, (F_X6_refused ((-100 : Int32) - (F_X6_readsWell rs rd ka ba ta sh (((60 : Int32) * k) + i) n).2.2.2.2.1)).2, pn, (F_X6_readsWell rs rd ka ba ta sh (((60 : Int32) * k) + i) n).2.1, (F_X6_readsWell rs rd ka ba ta sh (((60 : Int32) * k) + i) n).2.2.1, (F_X6_readsWell rs rd ka ba ta sh (((60 : Int32) * k) + i) n).2.2.2.1, sl, rg, dr, yn, (F_X6_readsWell rs rd ka ba ta sh (((60 : Int32) * k) + i) n).2.2.2.2.1, (F_X6_readsWell rs rd ka ba ta sh (((60 : Int32) * k) + i) n).2.2.2.2.2.1, ko, bo, yo, (F_X6_readsWell rs rd ka ba ta sh (((60 : Int32) * k) + i) n).2.2.2.2.2.2.1, (F_X6_readsWell rs rd ka ba ta sh (((60 : Int32) * k) + i) n).2.2.2.2.2.2.2.1, (F_X6_readsWell rs rd ka ba ta sh (((60 : Int32) * k) + i) n).2.2.2.2.2.2.2.2) else (F_X6_well_l114 rs rd ka ba ta sh k i n (F_X6_well_k114 rs rd ka ba ta sh k i n) 10 (0 : Int32) ko bo yo)) else ((F_X6_cellsBarred fl ss sa k la i n.toInt64).1, (F_X6_cellsBarred fl ss sa k la i n.toInt64).2, pn, rs, rd, ry, sl, rg, dr, yn, ra, rp, ko, bo, yo, ka, ba, ta))) else ((F_X6_refused (-1 : Int32)).1, (F_X6_refused (-1 : Int32)).2, pn, rs, rd, ry, sl, rg, dr, yn, ra, rp, ko, bo, yo, ka, ba, ta))
set_option maxHeartbeats 4000000 in
set_option maxRecDepth 100000 in
theorem c_X6_well (l : Launch) (D : va_G) (cI cO : ClassId) (h6 : Nat) (q : Nat → Nat) (fl : Int32) (pn : Int32) (sl : Int32) (dr : Int32) (yn : Int32) (ra : Int32) (rp : Int32) (rs : Int32) (rd : Int32) (ry : Int32) (pk : Int32) (yk : Int32) (rg : Int32) (tc : Int32) (ko : Nat → Int32) (bo : Nat → Int32) (yo : Nat → Int32) (ka : Nat → Int32) (ba : Nat → Int32) (ta : Nat → Int32) (ss : Nat → Int32) (sa : Nat → Int32) (sh : Nat → Int32) (k : Int32) (la : Int32) (i : Int32) (n : Int32) (hss : ∀ i, i < 4 → (ss i).toInt ≤ 60) : zW l yX6_well wsX6_well ({ frames := 4, cells := 0, slots := 0, locals := 100 } : Room) D cI cO [.ref h6, .int k, .int la, .int i, .int n] [(h6, .inr (6, fM fl pn sl dr yn ra rp rs rd ry pk yk rg tc q)), ((q 5), .inl (cI, 9, .inl ko)), ((q 6), .inl (cI, 9, .inl bo)), ((q 7), .inl (cI, 9, .inl yo)), ((q 13), .inl (cI, 9, .inl ka)), ((q 14), .inl (cI, 9, .inl ba)), ((q 15), .inl (cI, 9, .inl ta)), ((q 25), .inl (cI, 4, .inl ss)), ((q 26), .inl (cI, 4, .inl sa)), ((q 27), .inl (cI, 240, .inl sh))] [(h6, .inr (6, fM ((F_X6_well fl pn sl dr yn ra rp rs rd ry rg ko bo yo ka ba ta ss sa sh k la i n).2.1) ((F_X6_well fl pn sl dr yn ra rp rs rd ry rg ko bo yo ka ba ta ss sa sh k la i n).2.2.1) ((F_X6_well fl pn sl dr yn ra rp rs rd ry rg ko bo yo ka ba ta ss sa sh k la i n).2.2.2.2.2.2.1) ((F_X6_well fl pn sl dr yn ra rp rs rd ry rg ko bo yo ka ba ta ss sa sh k la i n).2.2.2.2.2.2.2.2.1) ((F_X6_well fl pn sl dr yn ra rp rs rd ry rg ko bo yo ka ba ta ss sa sh k la i n).2.2.2.2.2.2.2.2.2.1) ((F_X6_well fl pn sl dr yn ra rp rs rd ry rg ko bo yo ka ba ta ss sa sh k la i n).2.2.2.2.2.2.2.2.2.2.1) ((F_X6_well fl pn sl dr yn ra rp rs rd ry rg ko bo yo ka ba ta ss sa sh k la i n).2.2.2.2.2.2.2.2.2.2.2.1) ((F_X6_well fl pn sl dr yn ra rp rs rd ry rg ko bo yo ka ba ta ss sa sh k la i n).2.2.2.1) ((F_X6_well fl pn sl dr yn ra rp rs rd ry rg ko bo yo ka ba ta ss sa sh k la i n).2.2.2.2.1) ((F_X6_well fl pn sl dr yn ra rp rs rd ry rg ko bo yo ka ba ta ss sa sh k la i n).2.2.2.2.2.1) pk yk ((F_X6_well fl pn sl dr yn ra rp rs rd ry rg ko bo yo ka ba ta ss sa sh k la i n).2.2.2.2.2.2.2.1) tc q)), ((q 5), .inl (cI, 9, .inl ((F_X6_well fl pn sl dr yn ra rp rs rd ry rg ko bo yo ka ba ta ss sa sh k la i n).2.2.2.2.2.2.2.2.2.2.2.2.1))), ((q 6), .inl (cI, 9, .inl ((F_X6_well fl pn sl dr yn ra rp rs rd ry rg ko bo yo ka ba ta ss sa sh k la i n).2.2.2.2.2.2.2.2.2.2.2.2.2.1))), ((q 7), .inl (cI, 9, .inl ((F_X6_well fl pn sl dr yn ra rp rs rd ry rg ko bo yo ka ba ta ss sa sh k la i n).2.2.2.2.2.2.2.2.2.2.2.2.2.2.1))), ((q 13), .inl (cI, 9, .inl ((F_X6_well fl pn sl dr yn ra rp rs rd ry rg ko bo yo ka ba ta ss sa sh k la i n).2.2.2.2.2.2.2.2.2.2.2.2.2.2.2.1))), ((q 14), .inl (cI, 9, .inl ((F_X6_well fl pn sl dr yn ra rp rs rd ry rg ko bo yo ka ba ta ss sa sh k la i n).2.2.2.2.2.2.2.2.2.2.2.2.2.2.2.2.1))), ((q 15), .inl (cI, 9, .inl ((F_X6_well fl pn sl dr yn ra rp rs rd ry rg ko bo yo ka ba ta ss sa sh k la i n).2.2.2.2.2.2.2.2.2.2.2.2.2.2.2.2.2))), ((q 25), .inl (cI, 4, .inl ss)), ((q 26), .inl (cI, 4, .inl sa)), ((q 27), .inl (cI, 240, .inl sh))] (some (.int ((F_X6_well fl pn sl dr yn ra rp rs rd ry rg ko bo yo ka ba ta ss sa sh k la i n).1))) := by
  refine zW_of (nL := 7) (cc := cX6_well) (ret := some .int) (lv := [(0, .ref h6), (1, .int k), (2, .int la), (3, .int i), (4, .int n)]) (by decide +kernel) rfl (Nat.le_of_ble_eq_true rfl) rfl (fun p e s m args below meth c C hr hlk => ?_)
  have hf := F_X6_well.eq_1 fl pn sl dr yn ra rp rs rd ry rg ko bo yo ka ba ta ss sa sh k la i n
  refine z_iload_n C dX6_well_0 rfl 1 rfl ?_
  refine z_cSR (As := [.int k]) C (c_X6_noSheet l D cI cO k) (va_cwS 1 C.2.2.2.2.1 gX6_well_X6_noSheet rfl rfl rfl hdS_X6_noSheet ⟨Nat.le_of_ble_eq_true rfl, Nat.le_of_ble_eq_true rfl⟩) [] rfl rfl rfl _ rfl (Nat.le_of_ble_eq_true rfl) ⟨Nat.zero_le _, Nat.zero_le _⟩ dX6_well_1 ?_
  generalize hu1 : (F_X6_noSheet k) = u1 at hf ⊢
  refine z_if_eq (tgt := 13) C dX6_well_4 (by decide) (fun c4 => ?_) (fun c4 => ?_)
  · rw [if_pos c4] at hf
    have b4 := c4
    rw [← hu1] at c4
    refine z_iload_n C dX6_well_13 rfl 2 rfl ?_
    refine z_i2l C dX6_well_14 ?_
    refine z_lconst (v := (0 : Int64)) C dX6_well_15 (by decide) ?_
    refine z_ldc2 C m_X6_well_1 dX6_well_16 ?_
    refine z_cSR (As := [.long la.toInt64, .long (0 : Int64), .long (2 : Int64)]) C (c_X6_in l D cI cO la.toInt64 (0 : Int64) (2 : Int64)) (va_cwS 3 C.2.2.2.2.1 gX6_well_X6_in rfl rfl rfl hdS_X6_in ⟨Nat.le_of_ble_eq_true rfl, Nat.le_of_ble_eq_true rfl⟩) [] rfl rfl rfl _ rfl (Nat.le_of_ble_eq_true rfl) ⟨Nat.zero_le _, Nat.zero_le _⟩ dX6_well_19 ?_
    generalize hu19 : (F_X6_in la.toInt64 (0 : Int64) (2 : Int64)) = u19 at hf ⊢
    refine z_if_ne (tgt := 32) C dX6_well_22 (by decide) (fun c22 => ?_) (fun c22 => ?_)
    · rw [if_neg c22] at hf
      have b22 := c22
      rw [← hu19] at c22
      refine z_aload_n C dX6_well_32 rfl 0 rfl ?_
      refine z_iload_n C dX6_well_33 rfl 1 rfl ?_
      refine z_iload_n C dX6_well_34 rfl 2 rfl ?_
      refine z_iload_n C dX6_well_35 rfl 3 rfl ?_
      refine z_iload C dX6_well_36 4 rfl ?_
      refine z_i2l C dX6_well_38 ?_
      refine z_cVW (As := [.int k, .int la, .int i, .long n.toInt64]) C (c_X6_cellsBarred l D cI cO h6 q fl pn sl dr yn ra rp rs rd ry pk yk rg tc ss sa k la i n.toInt64 (by subst hu19 hu1; exact (noSheet_k c4))) (cwV 4 C.2.2.2.2.1 gX6_well_X6_cellsBarred rfl rfl rfl hdV_X6_cellsBarred ⟨Nat.le_of_ble_eq_true rfl, Nat.le_of_ble_eq_true rfl⟩) [(h6, .inr (6, fM ((F_X6_cellsBarred fl ss sa k la i n.toInt64).2) pn sl dr yn ra rp rs rd ry pk yk rg tc q)), ((q 5), .inl (cI, 9, .inl ko)), ((q 6), .inl (cI, 9, .inl bo)), ((q 7), .inl (cI, 9, .inl yo)), ((q 13), .inl (cI, 9, .inl ka)), ((q 14), .inl (cI, 9, .inl ba)), ((q 15), .inl (cI, 9, .inl ta)), ((q 25), .inl (cI, 4, .inl ss)), ((q 26), .inl (cI, 4, .inl sa)), ((q 27), .inl (cI, 240, .inl sh))] [0, 7, 8] rfl rfl (Eq.refl [h6, (q 25), (q 26)]) rfl 0 rfl rfl rfl _ rfl (Nat.le_of_ble_eq_true rfl) ⟨Nat.zero_le _, Nat.zero_le _⟩ dX6_well_39 ?_
      generalize hu39 : (F_X6_cellsBarred fl ss sa k la i n.toInt64) = u39 at hf ⊢
      refine z_istore C [(0, .ref h6), (1, .int k), (2, .int la), (3, .int i), (4, .int n), (5, .int u39.1)] dX6_well_42 (by decide) [1, 2, 3, 4, 5, 0] rfl ?_
      refine z_iload C dX6_well_44 5 rfl ?_
      refine z_if_ge (tgt := 52) C dX6_well_46 (by decide) (fun c46 => ?_) (fun c46 => ?_)
      · rw [if_pos c46] at hf
        have b46 := c46
        rw [← hu39] at c46
        obtain ⟨k0, hk0, hk1⟩ := noSheet_in c4
        have hbar := barred_in hk1 hk0 c46
        obtain ⟨a0, N0, ha0, hN1, haN⟩ := beyond_in (hss k0 hk0) hbar.2
        refine z_aload_n C dX6_well_52 rfl 0 rfl ?_
        refine z_bipush (v := (60 : Int32)) C dX6_well_53 (by decide) ?_
        refine z_iload_n C dX6_well_55 rfl 1 rfl ?_
        refine z_imul C dX6_well_56 ?_
        refine z_iload_n C dX6_well_57 rfl 3 rfl ?_
        refine z_iadd C dX6_well_58 ?_
        refine z_iload C dX6_well_59 4 rfl ?_
        refine z_cVW (As := [.int (((60 : Int32) * k) + i), .int n]) C (c_X6_readsWell l D cI cO h6 q u39.2 pn sl dr yn ra rp rs rd ry pk yk rg tc ka ba ta sh (((60 : Int32) * k) + i) n (60 * k0 + a0) N0 (by subst hu39 hu19 hu1; exact (sheet_e hk1 ha0)) (by subst hu39 hu19 hu1; exact hN1) (by omega)) (cwV 2 C.2.2.2.2.1 gX6_well_X6_readsWell rfl rfl rfl hdV_X6_readsWell ⟨Nat.le_of_ble_eq_true rfl, Nat.le_of_ble_eq_true rfl⟩) [(h6, .inr (6, fM u39.2 pn sl dr yn ((F_X6_readsWell rs rd ka ba ta sh (((60 : Int32) * k) + i) n).2.2.2.2.1) ((F_X6_readsWell rs rd ka ba ta sh (((60 : Int32) * k) + i) n).2.2.2.2.2.1) ((F_X6_readsWell rs rd ka ba ta sh (((60 : Int32) * k) + i) n).2.1) ((F_X6_readsWell rs rd ka ba ta sh (((60 : Int32) * k) + i) n).2.2.1) ((F_X6_readsWell rs rd ka ba ta sh (((60 : Int32) * k) + i) n).2.2.2.1) pk yk rg tc q)), ((q 5), .inl (cI, 9, .inl ko)), ((q 6), .inl (cI, 9, .inl bo)), ((q 7), .inl (cI, 9, .inl yo)), ((q 13), .inl (cI, 9, .inl ((F_X6_readsWell rs rd ka ba ta sh (((60 : Int32) * k) + i) n).2.2.2.2.2.2.1))), ((q 14), .inl (cI, 9, .inl ((F_X6_readsWell rs rd ka ba ta sh (((60 : Int32) * k) + i) n).2.2.2.2.2.2.2.1))), ((q 15), .inl (cI, 9, .inl ((F_X6_readsWell rs rd ka ba ta sh (((60 : Int32) * k) + i) n).2.2.2.2.2.2.2.2))), ((q 25), .inl (cI, 4, .inl ss)), ((q 26), .inl (cI, 4, .inl sa)), ((q 27), .inl (cI, 240, .inl sh))] [0, 4, 5, 6, 9] rfl rfl (Eq.refl [h6, (q 13), (q 14), (q 15), (q 27)]) rfl 0 rfl rfl rfl _ rfl (Nat.le_of_ble_eq_true rfl) ⟨Nat.zero_le _, Nat.zero_le _⟩ dX6_well_61 ?_
        generalize hu61 : (F_X6_readsWell rs rd ka ba ta sh (((60 : Int32) * k) + i) n) = u61 at hf ⊢
        refine z_if_ne (tgt := 79) C dX6_well_64 (by decide) (fun c64 => ?_) (fun c64 => ?_)
        · rw [if_neg c64] at hf
          have b64 := c64
          rw [← hu61] at c64
          obtain ⟨jw, hjw, hjw9⟩ := readsWell_rp (rs := rs) (rd := rd) (ka := ka) (ba := ba) (ta := ta) (sh := sh) (tf := ((60 : Int32) * k) + i) hN1 (by omega)
          refine z_aload_n C dX6_well_79 rfl 0 rfl ?_
          refine z_aload_n C dX6_well_80 rfl 0 rfl ?_
          refine z_get (T := TX6) (v := .int u61.2.2.2.2.2.1) C i_X6_well_6 0 rfl rfl 9 (by decide) m_X6_well_3 rfl rfl dX6_well_81 ?_
          refine z_put (T := TX6) (ty := .int) C [(h6, .inr (6, fM u39.2 u61.2.2.2.2.2.1 sl dr yn u61.2.2.2.2.1 u61.2.2.2.2.2.1 u61.2.1 u61.2.2.1 u61.2.2.2.1 pk yk rg tc q)), ((q 5), .inl (cI, 9, .inl ko)), ((q 6), .inl (cI, 9, .inl bo)), ((q 7), .inl (cI, 9, .inl yo)), ((q 13), .inl (cI, 9, .inl u61.2.2.2.2.2.2.1)), ((q 14), .inl (cI, 9, .inl u61.2.2.2.2.2.2.2.1)), ((q 15), .inl (cI, 9, .inl u61.2.2.2.2.2.2.2.2)), ((q 25), .inl (cI, 4, .inl ss)), ((q 26), .inl (cI, 4, .inl sa)), ((q 27), .inl (cI, 240, .inl sh))] i_X6_well_6 tyX6 tyX6_ok nmX6 0 rfl rfl 1 (by decide) m_X6_well_4 rfl rfl (by decide +kernel) rfl rfl (Nat.le_of_ble_eq_true rfl) dX6_well_84 rfl ?_
          refine z_aload_n C dX6_well_87 rfl 0 rfl ?_
          refine z_aload_n C dX6_well_88 rfl 0 rfl ?_
          refine z_get (T := TX6) (v := .int u61.2.1) C i_X6_well_6 0 rfl rfl 10 (by decide) m_X6_well_5 rfl rfl dX6_well_89 ?_
          refine z_put (T := TX6) (ty := .int) C [(h6, .inr (6, fM u39.2 u61.2.2.2.2.2.1 u61.2.1 dr yn u61.2.2.2.2.1 u61.2.2.2.2.2.1 u61.2.1 u61.2.2.1 u61.2.2.2.1 pk yk rg tc q)), ((q 5), .inl (cI, 9, .inl ko)), ((q 6), .inl (cI, 9, .inl bo)), ((q 7), .inl (cI, 9, .inl yo)), ((q 13), .inl (cI, 9, .inl u61.2.2.2.2.2.2.1)), ((q 14), .inl (cI, 9, .inl u61.2.2.2.2.2.2.2.1)), ((q 15), .inl (cI, 9, .inl u61.2.2.2.2.2.2.2.2)), ((q 25), .inl (cI, 4, .inl ss)), ((q 26), .inl (cI, 4, .inl sa)), ((q 27), .inl (cI, 240, .inl sh))] i_X6_well_6 tyX6 tyX6_ok nmX6 0 rfl rfl 2 (by decide) m_X6_well_6 rfl rfl (by decide +kernel) rfl rfl (Nat.le_of_ble_eq_true rfl) dX6_well_92 rfl ?_
          refine z_aload_n C dX6_well_95 rfl 0 rfl ?_
          refine z_aload_n C dX6_well_96 rfl 0 rfl ?_
          refine z_get (T := TX6) (v := .int u61.2.2.1) C i_X6_well_6 0 rfl rfl 11 (by decide) m_X6_well_7 rfl rfl dX6_well_97 ?_
          refine z_put (T := TX6) (ty := .int) C [(h6, .inr (6, fM u39.2 u61.2.2.2.2.2.1 u61.2.1 u61.2.2.1 yn u61.2.2.2.2.1 u61.2.2.2.2.2.1 u61.2.1 u61.2.2.1 u61.2.2.2.1 pk yk rg tc q)), ((q 5), .inl (cI, 9, .inl ko)), ((q 6), .inl (cI, 9, .inl bo)), ((q 7), .inl (cI, 9, .inl yo)), ((q 13), .inl (cI, 9, .inl u61.2.2.2.2.2.2.1)), ((q 14), .inl (cI, 9, .inl u61.2.2.2.2.2.2.2.1)), ((q 15), .inl (cI, 9, .inl u61.2.2.2.2.2.2.2.2)), ((q 25), .inl (cI, 4, .inl ss)), ((q 26), .inl (cI, 4, .inl sa)), ((q 27), .inl (cI, 240, .inl sh))] i_X6_well_6 tyX6 tyX6_ok nmX6 0 rfl rfl 3 (by decide) m_X6_well_8 rfl rfl (by decide +kernel) rfl rfl (Nat.le_of_ble_eq_true rfl) dX6_well_100 rfl ?_
          refine z_aload_n C dX6_well_103 rfl 0 rfl ?_
          refine z_aload_n C dX6_well_104 rfl 0 rfl ?_
          refine z_get (T := TX6) (v := .int u61.2.2.2.1) C i_X6_well_6 0 rfl rfl 12 (by decide) m_X6_well_9 rfl rfl dX6_well_105 ?_
          refine z_put (T := TX6) (ty := .int) C [(h6, .inr (6, fM u39.2 u61.2.2.2.2.2.1 u61.2.1 u61.2.2.1 u61.2.2.2.1 u61.2.2.2.2.1 u61.2.2.2.2.2.1 u61.2.1 u61.2.2.1 u61.2.2.2.1 pk yk rg tc q)), ((q 5), .inl (cI, 9, .inl ko)), ((q 6), .inl (cI, 9, .inl bo)), ((q 7), .inl (cI, 9, .inl yo)), ((q 13), .inl (cI, 9, .inl u61.2.2.2.2.2.2.1)), ((q 14), .inl (cI, 9, .inl u61.2.2.2.2.2.2.2.1)), ((q 15), .inl (cI, 9, .inl u61.2.2.2.2.2.2.2.2)), ((q 25), .inl (cI, 4, .inl ss)), ((q 26), .inl (cI, 4, .inl sa)), ((q 27), .inl (cI, 240, .inl sh))] i_X6_well_6 tyX6 tyX6_ok nmX6 0 rfl rfl 4 (by decide) m_X6_well_10 rfl rfl (by decide +kernel) rfl rfl (Nat.le_of_ble_eq_true rfl) dX6_well_108 rfl ?_
          refine z_iconst (v := (0 : Int32)) C dX6_well_111 (by decide) ?_
          refine z_istore C [(0, .ref h6), (1, .int k), (2, .int la), (3, .int i), (4, .int n), (5, .int u39.1), (6, .int (0 : Int32))] dX6_well_112 (by decide) [1, 2, 3, 4, 5, 6, 0] rfl ?_
          have X114 : ∀ (x6_114 : Int32) (ko_114 : Nat → Int32) (bo_114 : Nat → Int32) (yo_114 : Nat → Int32), F_X6_well fl pn sl dr yn ra rp rs rd ry rg ko bo yo ka ba ta ss sa sh k la i n = (F_X6_well_k114 rs rd ka ba ta sh k i n) x6_114 ko_114 bo_114 yo_114 → zG p l e ({ frames := 4, cells := 0, slots := 0, locals := 100 } : Room) s m args below meth c D (zA [(h6, .inr (6, fM fl pn sl dr yn ra rp rs rd ry pk yk rg tc q)), ((q 5), .inl (cI, 9, .inl ko)), ((q 6), .inl (cI, 9, .inl bo)), ((q 7), .inl (cI, 9, .inl yo)), ((q 13), .inl (cI, 9, .inl ka)), ((q 14), .inl (cI, 9, .inl ba)), ((q 15), .inl (cI, 9, .inl ta)), ((q 25), .inl (cI, 4, .inl ss)), ((q 26), .inl (cI, 4, .inl sa)), ((q 27), .inl (cI, 240, .inl sh))]) (zXw (zA [(h6, .inr (6, fM fl pn sl dr yn ra rp rs rd ry pk yk rg tc q)), ((q 5), .inl (cI, 9, .inl ko)), ((q 6), .inl (cI, 9, .inl bo)), ((q 7), .inl (cI, 9, .inl yo)), ((q 13), .inl (cI, 9, .inl ka)), ((q 14), .inl (cI, 9, .inl ba)), ((q 15), .inl (cI, 9, .inl ta)), ((q 25), .inl (cI, 4, .inl ss)), ((q 26), .inl (cI, 4, .inl sa)), ((q 27), .inl (cI, 240, .inl sh))]) s.heap) 7 0 0 (MQ below (zQw D [(h6, .inr (6, fM ((F_X6_well fl pn sl dr yn ra rp rs rd ry rg ko bo yo ka ba ta ss sa sh k la i n).2.1) ((F_X6_well fl pn sl dr yn ra rp rs rd ry rg ko bo yo ka ba ta ss sa sh k la i n).2.2.1) ((F_X6_well fl pn sl dr yn ra rp rs rd ry rg ko bo yo ka ba ta ss sa sh k la i n).2.2.2.2.2.2.1) ((F_X6_well fl pn sl dr yn ra rp rs rd ry rg ko bo yo ka ba ta ss sa sh k la i n).2.2.2.2.2.2.2.2.1) ((F_X6_well fl pn sl dr yn ra rp rs rd ry rg ko bo yo ka ba ta ss sa sh k la i n).2.2.2.2.2.2.2.2.2.1) ((F_X6_well fl pn sl dr yn ra rp rs rd ry rg ko bo yo ka ba ta ss sa sh k la i n).2.2.2.2.2.2.2.2.2.2.1) ((F_X6_well fl pn sl dr yn ra rp rs rd ry rg ko bo yo ka ba ta ss sa sh k la i n).2.2.2.2.2.2.2.2.2.2.2.1) ((F_X6_well fl pn sl dr yn ra rp rs rd ry rg ko bo yo ka ba ta ss sa sh k la i n).2.2.2.1) ((F_X6_well fl pn sl dr yn ra rp rs rd ry rg ko bo yo ka ba ta ss sa sh k la i n).2.2.2.2.1) ((F_X6_well fl pn sl dr yn ra rp rs rd ry rg ko bo yo ka ba ta ss sa sh k la i n).2.2.2.2.2.1) pk yk ((F_X6_well fl pn sl dr yn ra rp rs rd ry rg ko bo yo ka ba ta ss sa sh k la i n).2.2.2.2.2.2.2.1) tc q)), ((q 5), .inl (cI, 9, .inl ((F_X6_well fl pn sl dr yn ra rp rs rd ry rg ko bo yo ka ba ta ss sa sh k la i n).2.2.2.2.2.2.2.2.2.2.2.2.1))), ((q 6), .inl (cI, 9, .inl ((F_X6_well fl pn sl dr yn ra rp rs rd ry rg ko bo yo ka ba ta ss sa sh k la i n).2.2.2.2.2.2.2.2.2.2.2.2.2.1))), ((q 7), .inl (cI, 9, .inl ((F_X6_well fl pn sl dr yn ra rp rs rd ry rg ko bo yo ka ba ta ss sa sh k la i n).2.2.2.2.2.2.2.2.2.2.2.2.2.2.1))), ((q 13), .inl (cI, 9, .inl ((F_X6_well fl pn sl dr yn ra rp rs rd ry rg ko bo yo ka ba ta ss sa sh k la i n).2.2.2.2.2.2.2.2.2.2.2.2.2.2.2.1))), ((q 14), .inl (cI, 9, .inl ((F_X6_well fl pn sl dr yn ra rp rs rd ry rg ko bo yo ka ba ta ss sa sh k la i n).2.2.2.2.2.2.2.2.2.2.2.2.2.2.2.2.1))), ((q 15), .inl (cI, 9, .inl ((F_X6_well fl pn sl dr yn ra rp rs rd ry rg ko bo yo ka ba ta ss sa sh k la i n).2.2.2.2.2.2.2.2.2.2.2.2.2.2.2.2.2))), ((q 25), .inl (cI, 4, .inl ss)), ((q 26), .inl (cI, 4, .inl sa)), ((q 27), .inl (cI, 240, .inl sh))] (zA [(h6, .inr (6, fM fl pn sl dr yn ra rp rs rd ry pk yk rg tc q)), ((q 5), .inl (cI, 9, .inl ko)), ((q 6), .inl (cI, 9, .inl bo)), ((q 7), .inl (cI, 9, .inl yo)), ((q 13), .inl (cI, 9, .inl ka)), ((q 14), .inl (cI, 9, .inl ba)), ((q 15), .inl (cI, 9, .inl ta)), ((q 25), .inl (cI, 4, .inl ss)), ((q 26), .inl (cI, 4, .inl sa)), ((q 27), .inl (cI, 240, .inl sh))]) (some (.int ((F_X6_well fl pn sl dr yn ra rp rs rd ry rg ko bo yo ka ba ta ss sa sh k la i n).1)))) args s 0 0 (zA [(h6, .inr (6, fM fl pn sl dr yn ra rp rs rd ry pk yk rg tc q)), ((q 5), .inl (cI, 9, .inl ko)), ((q 6), .inl (cI, 9, .inl bo)), ((q 7), .inl (cI, 9, .inl yo)), ((q 13), .inl (cI, 9, .inl ka)), ((q 14), .inl (cI, 9, .inl ba)), ((q 15), .inl (cI, 9, .inl ta)), ((q 25), .inl (cI, 4, .inl ss)), ((q 26), .inl (cI, 4, .inl sa)), ((q 27), .inl (cI, 240, .inl sh))])) 171 [(0, .ref h6), (1, .int k), (2, .int la), (3, .int i), (4, .int n), (5, .int u39.1), (6, .int x6_114)] [] [(h6, .inr (6, fM u39.2 u61.2.2.2.2.2.1 u61.2.1 u61.2.2.1 u61.2.2.2.1 u61.2.2.2.2.1 u61.2.2.2.2.2.1 u61.2.1 u61.2.2.1 u61.2.2.2.1 pk yk rg tc q)), ((q 5), .inl (cI, 9, .inl ko_114)), ((q 6), .inl (cI, 9, .inl bo_114)), ((q 7), .inl (cI, 9, .inl yo_114)), ((q 13), .inl (cI, 9, .inl u61.2.2.2.2.2.2.1)), ((q 14), .inl (cI, 9, .inl u61.2.2.2.2.2.2.2.1)), ((q 15), .inl (cI, 9, .inl u61.2.2.2.2.2.2.2.2)), ((q 25), .inl (cI, 4, .inl ss)), ((q 26), .inl (cI, 4, .inl sa)), ((q 27), .inl (cI, 240, .inl sh))] := by
            intro x6_114 ko_114 bo_114 yo_114 hf
            rw [F_X6_well_k114] at hf
            simp only [hu61] at hf
            refine z_aload_n C dX6_well_171 rfl 0 rfl ?_
            refine z_iconst (v := (0 : Int32)) C dX6_well_172 (by decide) ?_
            refine z_put (T := TX6) (ty := .int) C [(h6, .inr (6, fM u39.2 u61.2.2.2.2.2.1 u61.2.1 u61.2.2.1 u61.2.2.2.1 u61.2.2.2.2.1 u61.2.2.2.2.2.1 u61.2.1 u61.2.2.1 u61.2.2.2.1 pk yk (0 : Int32) tc q)), ((q 5), .inl (cI, 9, .inl ko_114)), ((q 6), .inl (cI, 9, .inl bo_114)), ((q 7), .inl (cI, 9, .inl yo_114)), ((q 13), .inl (cI, 9, .inl u61.2.2.2.2.2.2.1)), ((q 14), .inl (cI, 9, .inl u61.2.2.2.2.2.2.2.1)), ((q 15), .inl (cI, 9, .inl u61.2.2.2.2.2.2.2.2)), ((q 25), .inl (cI, 4, .inl ss)), ((q 26), .inl (cI, 4, .inl sa)), ((q 27), .inl (cI, 240, .inl sh))] i_X6_well_6 tyX6 tyX6_ok nmX6 0 rfl rfl 22 (by decide) m_X6_well_17 rfl rfl (by decide +kernel) rfl rfl (Nat.le_of_ble_eq_true rfl) dX6_well_173 rfl ?_
            refine z_aload_n C dX6_well_176 rfl 0 rfl ?_
            refine z_aload_n C dX6_well_177 rfl 0 rfl ?_
            refine z_get (T := TX6) (v := .int u61.2.2.2.2.2.1) C i_X6_well_6 0 rfl rfl 1 (by decide) m_X6_well_4 rfl rfl dX6_well_178 ?_
            refine z_cVW (As := [.int u61.2.2.2.2.2.1]) C (c_X6_refused l D cI cO h6 q u39.2 u61.2.2.2.2.2.1 u61.2.1 u61.2.2.1 u61.2.2.2.1 u61.2.2.2.2.1 u61.2.2.2.2.2.1 u61.2.1 u61.2.2.1 u61.2.2.2.1 pk yk (0 : Int32) tc u61.2.2.2.2.2.1) (cwV 1 C.2.2.2.2.1 gX6_well_X6_refused rfl rfl rfl hdV_X6_refused ⟨Nat.le_of_ble_eq_true rfl, Nat.le_of_ble_eq_true rfl⟩) [(h6, .inr (6, fM ((F_X6_refused u61.2.2.2.2.2.1).2) u61.2.2.2.2.2.1 u61.2.1 u61.2.2.1 u61.2.2.2.1 u61.2.2.2.2.1 u61.2.2.2.2.2.1 u61.2.1 u61.2.2.1 u61.2.2.2.1 pk yk (0 : Int32) tc q)), ((q 5), .inl (cI, 9, .inl ko_114)), ((q 6), .inl (cI, 9, .inl bo_114)), ((q 7), .inl (cI, 9, .inl yo_114)), ((q 13), .inl (cI, 9, .inl u61.2.2.2.2.2.2.1)), ((q 14), .inl (cI, 9, .inl u61.2.2.2.2.2.2.2.1)), ((q 15), .inl (cI, 9, .inl u61.2.2.2.2.2.2.2.2)), ((q 25), .inl (cI, 4, .inl ss)), ((q 26), .inl (cI, 4, .inl sa)), ((q 27), .inl (cI, 240, .inl sh))] [0] rfl rfl (Eq.refl [h6]) rfl 0 rfl rfl rfl _ rfl (Nat.le_of_ble_eq_true rfl) ⟨Nat.zero_le _, Nat.zero_le _⟩ dX6_well_181 ?_
            generalize hu181 : (F_X6_refused u61.2.2.2.2.2.1) = u181 at hf ⊢
            exact z_iretW C hr hlk (by rw [hf]) (by rw [hf]) dX6_well_184
          have L114 : ∀ (d114 : Nat) (j : Nat) (x6_114 : Int32) (ko_114 : Nat → Int32) (bo_114 : Nat → Int32) (yo_114 : Nat → Int32) (e6 : x6_114 = nI j) (hj : j ≤ jw) (hd : jw < j + d114), F_X6_well fl pn sl dr yn ra rp rs rd ry rg ko bo yo ka ba ta ss sa sh k la i n = F_X6_well_l114 rs rd ka ba ta sh k i n (F_X6_well_k114 rs rd ka ba ta sh k i n) d114 x6_114 ko_114 bo_114 yo_114 → zG p l e ({ frames := 4, cells := 0, slots := 0, locals := 100 } : Room) s m args below meth c D (zA [(h6, .inr (6, fM fl pn sl dr yn ra rp rs rd ry pk yk rg tc q)), ((q 5), .inl (cI, 9, .inl ko)), ((q 6), .inl (cI, 9, .inl bo)), ((q 7), .inl (cI, 9, .inl yo)), ((q 13), .inl (cI, 9, .inl ka)), ((q 14), .inl (cI, 9, .inl ba)), ((q 15), .inl (cI, 9, .inl ta)), ((q 25), .inl (cI, 4, .inl ss)), ((q 26), .inl (cI, 4, .inl sa)), ((q 27), .inl (cI, 240, .inl sh))]) (zXw (zA [(h6, .inr (6, fM fl pn sl dr yn ra rp rs rd ry pk yk rg tc q)), ((q 5), .inl (cI, 9, .inl ko)), ((q 6), .inl (cI, 9, .inl bo)), ((q 7), .inl (cI, 9, .inl yo)), ((q 13), .inl (cI, 9, .inl ka)), ((q 14), .inl (cI, 9, .inl ba)), ((q 15), .inl (cI, 9, .inl ta)), ((q 25), .inl (cI, 4, .inl ss)), ((q 26), .inl (cI, 4, .inl sa)), ((q 27), .inl (cI, 240, .inl sh))]) s.heap) 7 0 0 (MQ below (zQw D [(h6, .inr (6, fM ((F_X6_well fl pn sl dr yn ra rp rs rd ry rg ko bo yo ka ba ta ss sa sh k la i n).2.1) ((F_X6_well fl pn sl dr yn ra rp rs rd ry rg ko bo yo ka ba ta ss sa sh k la i n).2.2.1) ((F_X6_well fl pn sl dr yn ra rp rs rd ry rg ko bo yo ka ba ta ss sa sh k la i n).2.2.2.2.2.2.1) ((F_X6_well fl pn sl dr yn ra rp rs rd ry rg ko bo yo ka ba ta ss sa sh k la i n).2.2.2.2.2.2.2.2.1) ((F_X6_well fl pn sl dr yn ra rp rs rd ry rg ko bo yo ka ba ta ss sa sh k la i n).2.2.2.2.2.2.2.2.2.1) ((F_X6_well fl pn sl dr yn ra rp rs rd ry rg ko bo yo ka ba ta ss sa sh k la i n).2.2.2.2.2.2.2.2.2.2.1) ((F_X6_well fl pn sl dr yn ra rp rs rd ry rg ko bo yo ka ba ta ss sa sh k la i n).2.2.2.2.2.2.2.2.2.2.2.1) ((F_X6_well fl pn sl dr yn ra rp rs rd ry rg ko bo yo ka ba ta ss sa sh k la i n).2.2.2.1) ((F_X6_well fl pn sl dr yn ra rp rs rd ry rg ko bo yo ka ba ta ss sa sh k la i n).2.2.2.2.1) ((F_X6_well fl pn sl dr yn ra rp rs rd ry rg ko bo yo ka ba ta ss sa sh k la i n).2.2.2.2.2.1) pk yk ((F_X6_well fl pn sl dr yn ra rp rs rd ry rg ko bo yo ka ba ta ss sa sh k la i n).2.2.2.2.2.2.2.1) tc q)), ((q 5), .inl (cI, 9, .inl ((F_X6_well fl pn sl dr yn ra rp rs rd ry rg ko bo yo ka ba ta ss sa sh k la i n).2.2.2.2.2.2.2.2.2.2.2.2.1))), ((q 6), .inl (cI, 9, .inl ((F_X6_well fl pn sl dr yn ra rp rs rd ry rg ko bo yo ka ba ta ss sa sh k la i n).2.2.2.2.2.2.2.2.2.2.2.2.2.1))), ((q 7), .inl (cI, 9, .inl ((F_X6_well fl pn sl dr yn ra rp rs rd ry rg ko bo yo ka ba ta ss sa sh k la i n).2.2.2.2.2.2.2.2.2.2.2.2.2.2.1))), ((q 13), .inl (cI, 9, .inl ((F_X6_well fl pn sl dr yn ra rp rs rd ry rg ko bo yo ka ba ta ss sa sh k la i n).2.2.2.2.2.2.2.2.2.2.2.2.2.2.2.1))), ((q 14), .inl (cI, 9, .inl ((F_X6_well fl pn sl dr yn ra rp rs rd ry rg ko bo yo ka ba ta ss sa sh k la i n).2.2.2.2.2.2.2.2.2.2.2.2.2.2.2.2.1))), ((q 15), .inl (cI, 9, .inl ((F_X6_well fl pn sl dr yn ra rp rs rd ry rg ko bo yo ka ba ta ss sa sh k la i n).2.2.2.2.2.2.2.2.2.2.2.2.2.2.2.2.2))), ((q 25), .inl (cI, 4, .inl ss)), ((q 26), .inl (cI, 4, .inl sa)), ((q 27), .inl (cI, 240, .inl sh))] (zA [(h6, .inr (6, fM fl pn sl dr yn ra rp rs rd ry pk yk rg tc q)), ((q 5), .inl (cI, 9, .inl ko)), ((q 6), .inl (cI, 9, .inl bo)), ((q 7), .inl (cI, 9, .inl yo)), ((q 13), .inl (cI, 9, .inl ka)), ((q 14), .inl (cI, 9, .inl ba)), ((q 15), .inl (cI, 9, .inl ta)), ((q 25), .inl (cI, 4, .inl ss)), ((q 26), .inl (cI, 4, .inl sa)), ((q 27), .inl (cI, 240, .inl sh))]) (some (.int ((F_X6_well fl pn sl dr yn ra rp rs rd ry rg ko bo yo ka ba ta ss sa sh k la i n).1)))) args s 0 0 (zA [(h6, .inr (6, fM fl pn sl dr yn ra rp rs rd ry pk yk rg tc q)), ((q 5), .inl (cI, 9, .inl ko)), ((q 6), .inl (cI, 9, .inl bo)), ((q 7), .inl (cI, 9, .inl yo)), ((q 13), .inl (cI, 9, .inl ka)), ((q 14), .inl (cI, 9, .inl ba)), ((q 15), .inl (cI, 9, .inl ta)), ((q 25), .inl (cI, 4, .inl ss)), ((q 26), .inl (cI, 4, .inl sa)), ((q 27), .inl (cI, 240, .inl sh))])) 114 [(0, .ref h6), (1, .int k), (2, .int la), (3, .int i), (4, .int n), (5, .int u39.1), (6, .int x6_114)] [] [(h6, .inr (6, fM u39.2 u61.2.2.2.2.2.1 u61.2.1 u61.2.2.1 u61.2.2.2.1 u61.2.2.2.2.1 u61.2.2.2.2.2.1 u61.2.1 u61.2.2.1 u61.2.2.2.1 pk yk rg tc q)), ((q 5), .inl (cI, 9, .inl ko_114)), ((q 6), .inl (cI, 9, .inl bo_114)), ((q 7), .inl (cI, 9, .inl yo_114)), ((q 13), .inl (cI, 9, .inl u61.2.2.2.2.2.2.1)), ((q 14), .inl (cI, 9, .inl u61.2.2.2.2.2.2.2.1)), ((q 15), .inl (cI, 9, .inl u61.2.2.2.2.2.2.2.2)), ((q 25), .inl (cI, 4, .inl ss)), ((q 26), .inl (cI, 4, .inl sa)), ((q 27), .inl (cI, 240, .inl sh))] := by
            intro d114
            induction d114 with
            | zero =>
              intro j x6_114 ko_114 bo_114 yo_114 e6 hj hd hf
              exfalso; omega
            | succ d114 ih114 =>
              intro j x6_114 ko_114 bo_114 yo_114 e6 hj hd hf
              rw [F_X6_well_l114] at hf
              simp only [hu61] at hf
              refine z_iload C dX6_well_114 6 rfl ?_
              refine z_aload_n C dX6_well_116 rfl 0 rfl ?_
              refine z_get (T := TX6) (v := .int u61.2.2.2.2.2.1) C i_X6_well_6 0 rfl rfl 1 (by decide) m_X6_well_4 rfl rfl dX6_well_117 ?_
              refine z_icmp_ge (tgt := 171) C dX6_well_120 (by decide) (fun c120 => ?_) (fun c120 => ?_)
              · rw [if_pos c120] at hf
                have b120 := c120
                rw [← hu61] at c120
                exact X114 x6_114 ko_114 bo_114 yo_114  hf
              · rw [if_neg c120] at hf
                have b120 := c120
                rw [← hu61] at c120
                refine z_aload_n C dX6_well_123 rfl 0 rfl ?_
                refine z_get (T := TX6) (v := .ref (q 5)) C i_X6_well_6 0 rfl rfl 5 (by decide) m_X6_well_11 rfl rfl dX6_well_124 ?_
                refine z_iload C dX6_well_127 6 rfl ?_
                refine z_aload_n C dX6_well_129 rfl 0 rfl ?_
                refine z_get (T := TX6) (v := .ref (q 13)) C i_X6_well_6 0 rfl rfl 13 (by decide) m_X6_well_12 rfl rfl dX6_well_130 ?_
                refine z_iload C dX6_well_133 6 rfl ?_
                refine z_ald C 4 rfl (by subst hu61 hu39 hu19 hu1; exact (z_ix9 e6 (by have := z_jlt e6 (by omega) (z_tiN hjw (by omega)) c120; omega))) dX6_well_135 ?_
                refine z_ast C [(h6, .inr (6, fM u39.2 u61.2.2.2.2.2.1 u61.2.1 u61.2.2.1 u61.2.2.2.1 u61.2.2.2.2.1 u61.2.2.2.2.2.1 u61.2.1 u61.2.2.1 u61.2.2.2.1 pk yk rg tc q)), ((q 5), .inl (cI, 9, .inl (upd ko_114 x6_114.toNatClampNeg (u61.2.2.2.2.2.2.1 x6_114.toNatClampNeg)))), ((q 6), .inl (cI, 9, .inl bo_114)), ((q 7), .inl (cI, 9, .inl yo_114)), ((q 13), .inl (cI, 9, .inl u61.2.2.2.2.2.2.1)), ((q 14), .inl (cI, 9, .inl u61.2.2.2.2.2.2.2.1)), ((q 15), .inl (cI, 9, .inl u61.2.2.2.2.2.2.2.2)), ((q 25), .inl (cI, 4, .inl ss)), ((q 26), .inl (cI, 4, .inl sa)), ((q 27), .inl (cI, 240, .inl sh))] 1 rfl (by subst hu61 hu39 hu19 hu1; exact (z_ix9 e6 (by have := z_jlt e6 (by omega) (z_tiN hjw (by omega)) c120; omega))) dX6_well_136 rfl ?_
                refine z_aload_n C dX6_well_137 rfl 0 rfl ?_
                refine z_get (T := TX6) (v := .ref (q 6)) C i_X6_well_6 0 rfl rfl 6 (by decide) m_X6_well_13 rfl rfl dX6_well_138 ?_
                refine z_iload C dX6_well_141 6 rfl ?_
                refine z_aload_n C dX6_well_143 rfl 0 rfl ?_
                refine z_get (T := TX6) (v := .ref (q 14)) C i_X6_well_6 0 rfl rfl 14 (by decide) m_X6_well_14 rfl rfl dX6_well_144 ?_
                refine z_iload C dX6_well_147 6 rfl ?_
                refine z_ald C 5 rfl (by subst hu61 hu39 hu19 hu1; exact (z_ix9 e6 (by have := z_jlt e6 (by omega) (z_tiN hjw (by omega)) c120; omega))) dX6_well_149 ?_
                refine z_ast C [(h6, .inr (6, fM u39.2 u61.2.2.2.2.2.1 u61.2.1 u61.2.2.1 u61.2.2.2.1 u61.2.2.2.2.1 u61.2.2.2.2.2.1 u61.2.1 u61.2.2.1 u61.2.2.2.1 pk yk rg tc q)), ((q 5), .inl (cI, 9, .inl (upd ko_114 x6_114.toNatClampNeg (u61.2.2.2.2.2.2.1 x6_114.toNatClampNeg)))), ((q 6), .inl (cI, 9, .inl (upd bo_114 x6_114.toNatClampNeg (u61.2.2.2.2.2.2.2.1 x6_114.toNatClampNeg)))), ((q 7), .inl (cI, 9, .inl yo_114)), ((q 13), .inl (cI, 9, .inl u61.2.2.2.2.2.2.1)), ((q 14), .inl (cI, 9, .inl u61.2.2.2.2.2.2.2.1)), ((q 15), .inl (cI, 9, .inl u61.2.2.2.2.2.2.2.2)), ((q 25), .inl (cI, 4, .inl ss)), ((q 26), .inl (cI, 4, .inl sa)), ((q 27), .inl (cI, 240, .inl sh))] 2 rfl (by subst hu61 hu39 hu19 hu1; exact (z_ix9 e6 (by have := z_jlt e6 (by omega) (z_tiN hjw (by omega)) c120; omega))) dX6_well_150 rfl ?_
                refine z_aload_n C dX6_well_151 rfl 0 rfl ?_
                refine z_get (T := TX6) (v := .ref (q 7)) C i_X6_well_6 0 rfl rfl 7 (by decide) m_X6_well_15 rfl rfl dX6_well_152 ?_
                refine z_iload C dX6_well_155 6 rfl ?_
                refine z_aload_n C dX6_well_157 rfl 0 rfl ?_
                refine z_get (T := TX6) (v := .ref (q 15)) C i_X6_well_6 0 rfl rfl 15 (by decide) m_X6_well_16 rfl rfl dX6_well_158 ?_
                refine z_iload C dX6_well_161 6 rfl ?_
                refine z_ald C 6 rfl (by subst hu61 hu39 hu19 hu1; exact (z_ix9 e6 (by have := z_jlt e6 (by omega) (z_tiN hjw (by omega)) c120; omega))) dX6_well_163 ?_
                refine z_ast C [(h6, .inr (6, fM u39.2 u61.2.2.2.2.2.1 u61.2.1 u61.2.2.1 u61.2.2.2.1 u61.2.2.2.2.1 u61.2.2.2.2.2.1 u61.2.1 u61.2.2.1 u61.2.2.2.1 pk yk rg tc q)), ((q 5), .inl (cI, 9, .inl (upd ko_114 x6_114.toNatClampNeg (u61.2.2.2.2.2.2.1 x6_114.toNatClampNeg)))), ((q 6), .inl (cI, 9, .inl (upd bo_114 x6_114.toNatClampNeg (u61.2.2.2.2.2.2.2.1 x6_114.toNatClampNeg)))), ((q 7), .inl (cI, 9, .inl (upd yo_114 x6_114.toNatClampNeg (u61.2.2.2.2.2.2.2.2 x6_114.toNatClampNeg)))), ((q 13), .inl (cI, 9, .inl u61.2.2.2.2.2.2.1)), ((q 14), .inl (cI, 9, .inl u61.2.2.2.2.2.2.2.1)), ((q 15), .inl (cI, 9, .inl u61.2.2.2.2.2.2.2.2)), ((q 25), .inl (cI, 4, .inl ss)), ((q 26), .inl (cI, 4, .inl sa)), ((q 27), .inl (cI, 240, .inl sh))] 3 rfl (by subst hu61 hu39 hu19 hu1; exact (z_ix9 e6 (by have := z_jlt e6 (by omega) (z_tiN hjw (by omega)) c120; omega))) dX6_well_164 rfl ?_
                refine z_iinc (v := (x6_114 + (1 : Int32))) C [(0, .ref h6), (1, .int k), (2, .int la), (3, .int i), (4, .int n), (5, .int u39.1), (6, .int (x6_114 + (1 : Int32)))] dX6_well_165 6 rfl (by rfl) (by decide) [1, 2, 3, 4, 5, 6, 0] rfl ?_
                refine z_goto (tgt := 114) C dX6_well_168 (by decide) ?_
                exact ih114 (j + 1) (x6_114 + (1 : Int32)) (upd ko_114 x6_114.toNatClampNeg (u61.2.2.2.2.2.2.1 x6_114.toNatClampNeg)) (upd bo_114 x6_114.toNatClampNeg (u61.2.2.2.2.2.2.2.1 x6_114.toNatClampNeg)) (upd yo_114 x6_114.toNatClampNeg (u61.2.2.2.2.2.2.2.2 x6_114.toNatClampNeg)) (by subst hu61 hu39 hu19 hu1; exact (by rw [e6]; exact nI_1 j)) (by subst hu61 hu39 hu19 hu1; exact (by have := z_jlt e6 (by omega) (z_tiN hjw (by omega)) c120; omega)) (by omega) hf
          exact L114 10 0 (0 : Int32) ko bo yo (by subst hu61 hu39 hu19 hu1; exact nI_0.symm) (by subst hu61 hu39 hu19 hu1; exact (Nat.zero_le _)) (by omega) hf
        · rw [if_pos c64] at hf
          have b64 := c64
          rw [← hu61] at c64
          refine z_aload_n C dX6_well_67 rfl 0 rfl ?_
          refine z_bipush (v := (-100 : Int32)) C dX6_well_68 (by decide) ?_
          refine z_aload_n C dX6_well_70 rfl 0 rfl ?_
          refine z_get (T := TX6) (v := .int u61.2.2.2.2.1) C i_X6_well_6 0 rfl rfl 8 (by decide) m_X6_well_2 rfl rfl dX6_well_71 ?_
          refine z_isub C dX6_well_74 ?_
          refine z_cVW (As := [.int ((-100 : Int32) - u61.2.2.2.2.1)]) C (c_X6_refused l D cI cO h6 q u39.2 pn sl dr yn u61.2.2.2.2.1 u61.2.2.2.2.2.1 u61.2.1 u61.2.2.1 u61.2.2.2.1 pk yk rg tc ((-100 : Int32) - u61.2.2.2.2.1)) (cwV 1 C.2.2.2.2.1 gX6_well_X6_refused rfl rfl rfl hdV_X6_refused ⟨Nat.le_of_ble_eq_true rfl, Nat.le_of_ble_eq_true rfl⟩) [(h6, .inr (6, fM ((F_X6_refused ((-100 : Int32) - u61.2.2.2.2.1)).2) pn sl dr yn u61.2.2.2.2.1 u61.2.2.2.2.2.1 u61.2.1 u61.2.2.1 u61.2.2.2.1 pk yk rg tc q)), ((q 5), .inl (cI, 9, .inl ko)), ((q 6), .inl (cI, 9, .inl bo)), ((q 7), .inl (cI, 9, .inl yo)), ((q 13), .inl (cI, 9, .inl u61.2.2.2.2.2.2.1)), ((q 14), .inl (cI, 9, .inl u61.2.2.2.2.2.2.2.1)), ((q 15), .inl (cI, 9, .inl u61.2.2.2.2.2.2.2.2)), ((q 25), .inl (cI, 4, .inl ss)), ((q 26), .inl (cI, 4, .inl sa)), ((q 27), .inl (cI, 240, .inl sh))] [0] rfl rfl (Eq.refl [h6]) rfl 0 rfl rfl rfl _ rfl (Nat.le_of_ble_eq_true rfl) ⟨Nat.zero_le _, Nat.zero_le _⟩ dX6_well_75 ?_
          generalize hu75 : (F_X6_refused ((-100 : Int32) - u61.2.2.2.2.1)) = u75 at hf ⊢
          exact z_iretW C hr hlk (by rw [hf]) (by rw [hf]) dX6_well_78
      · rw [if_neg c46] at hf
        have b46 := c46
        rw [← hu39] at c46
        refine z_iload C dX6_well_49 5 rfl ?_
        exact z_iretW C hr hlk (by rw [hf]) (by rw [hf]) dX6_well_51
    · rw [if_pos c22] at hf
      have b22 := c22
      rw [← hu19] at c22
      refine z_aload_n C dX6_well_25 rfl 0 rfl ?_
      refine z_bipush (v := (-2 : Int32)) C dX6_well_26 (by decide) ?_
      refine z_cVW (As := [.int (-2 : Int32)]) C (c_X6_refused l D cI cO h6 q fl pn sl dr yn ra rp rs rd ry pk yk rg tc (-2 : Int32)) (cwV 1 C.2.2.2.2.1 gX6_well_X6_refused rfl rfl rfl hdV_X6_refused ⟨Nat.le_of_ble_eq_true rfl, Nat.le_of_ble_eq_true rfl⟩) [(h6, .inr (6, fM ((F_X6_refused (-2 : Int32)).2) pn sl dr yn ra rp rs rd ry pk yk rg tc q)), ((q 5), .inl (cI, 9, .inl ko)), ((q 6), .inl (cI, 9, .inl bo)), ((q 7), .inl (cI, 9, .inl yo)), ((q 13), .inl (cI, 9, .inl ka)), ((q 14), .inl (cI, 9, .inl ba)), ((q 15), .inl (cI, 9, .inl ta)), ((q 25), .inl (cI, 4, .inl ss)), ((q 26), .inl (cI, 4, .inl sa)), ((q 27), .inl (cI, 240, .inl sh))] [0] rfl rfl (Eq.refl [h6]) rfl 0 rfl rfl rfl _ rfl (Nat.le_of_ble_eq_true rfl) ⟨Nat.zero_le _, Nat.zero_le _⟩ dX6_well_28 ?_
      generalize hu28 : (F_X6_refused (-2 : Int32)) = u28 at hf ⊢
      exact z_iretW C hr hlk (by rw [hf]) (by rw [hf]) dX6_well_31
  · rw [if_neg c4] at hf
    have b4 := c4
    rw [← hu1] at c4
    refine z_aload_n C dX6_well_7 rfl 0 rfl ?_
    refine z_iconst (v := (-1 : Int32)) C dX6_well_8 (by decide) ?_
    refine z_cVW (As := [.int (-1 : Int32)]) C (c_X6_refused l D cI cO h6 q fl pn sl dr yn ra rp rs rd ry pk yk rg tc (-1 : Int32)) (cwV 1 C.2.2.2.2.1 gX6_well_X6_refused rfl rfl rfl hdV_X6_refused ⟨Nat.le_of_ble_eq_true rfl, Nat.le_of_ble_eq_true rfl⟩) [(h6, .inr (6, fM ((F_X6_refused (-1 : Int32)).2) pn sl dr yn ra rp rs rd ry pk yk rg tc q)), ((q 5), .inl (cI, 9, .inl ko)), ((q 6), .inl (cI, 9, .inl bo)), ((q 7), .inl (cI, 9, .inl yo)), ((q 13), .inl (cI, 9, .inl ka)), ((q 14), .inl (cI, 9, .inl ba)), ((q 15), .inl (cI, 9, .inl ta)), ((q 25), .inl (cI, 4, .inl ss)), ((q 26), .inl (cI, 4, .inl sa)), ((q 27), .inl (cI, 240, .inl sh))] [0] rfl rfl (Eq.refl [h6]) rfl 0 rfl rfl rfl _ rfl (Nat.le_of_ble_eq_true rfl) ⟨Nat.zero_le _, Nat.zero_le _⟩ dX6_well_9 ?_
    generalize hu9 : (F_X6_refused (-1 : Int32)) = u9 at hf ⊢
    exact z_iretW C hr hlk (by rw [hf]) (by rw [hf]) dX6_well_12
