-- X5_isSheet
def F_X5_isSheet (k : Int32) : Int32 :=
  (if k < 0 then (0 : Int32) else (if (4 : Int32) ≤ k then (0 : Int32) else (1 : Int32)))
set_option maxHeartbeats 4000000 in
set_option maxRecDepth 100000 in
theorem c_X5_isSheet (l : Launch) (D : va_G) (cI cO : ClassId) (k : Int32) : zR l yX5_isSheet wsX5_isSheet ({ frames := 0, cells := 0, slots := 0, locals := 0 } : Room) D cI cO [.int k] [] (some (.int (F_X5_isSheet k))) := by
  refine zR_of (nL := 1) (cc := cX5_isSheet) (ret := some .boolean) (lv := [(0, .int k)]) (by decide +kernel) rfl (Nat.le_of_ble_eq_true rfl) rfl (fun p e s m args below meth c C hr hlk => ?_)
  have hf := F_X5_isSheet.eq_1 k
  refine z_iload_n C dX5_isSheet_0 rfl 0 rfl ?_
  refine z_if_lt (tgt := 13) C dX5_isSheet_1 (by decide) (fun c1 => ?_) (fun c1 => ?_)
  · rw [if_pos c1] at hf
    refine z_iconst (v := (0 : Int32)) C dX5_isSheet_13 (by decide) ?_
    exact z_zretR C hr hlk rfl (by rw [hf]) dX5_isSheet_14
  · rw [if_neg c1] at hf
    refine z_iload_n C dX5_isSheet_4 rfl 0 rfl ?_
    refine z_iconst (v := (4 : Int32)) C dX5_isSheet_5 (by decide) ?_
    refine z_icmp_ge (tgt := 13) C dX5_isSheet_6 (by decide) (fun c6 => ?_) (fun c6 => ?_)
    · rw [if_pos c6] at hf
      refine z_iconst (v := (0 : Int32)) C dX5_isSheet_13 (by decide) ?_
      exact z_zretR C hr hlk rfl (by rw [hf]) dX5_isSheet_14
    · rw [if_neg c6] at hf
      refine z_iconst (v := (1 : Int32)) C dX5_isSheet_9 (by decide) ?_
      refine z_goto (tgt := 14) C dX5_isSheet_10 (by decide) ?_
      exact z_zretR C hr hlk rfl (by rw [hf]) dX5_isSheet_14
-- X5_isLane
def F_X5_isLane (k : Int32) : Int32 :=
  (if k < 0 then (0 : Int32) else (if (3 : Int32) ≤ k then (0 : Int32) else (1 : Int32)))
set_option maxHeartbeats 4000000 in
set_option maxRecDepth 100000 in
theorem c_X5_isLane (l : Launch) (D : va_G) (cI cO : ClassId) (k : Int32) : zR l yX5_isLane wsX5_isLane ({ frames := 0, cells := 0, slots := 0, locals := 0 } : Room) D cI cO [.int k] [] (some (.int (F_X5_isLane k))) := by
  refine zR_of (nL := 1) (cc := cX5_isLane) (ret := some .boolean) (lv := [(0, .int k)]) (by decide +kernel) rfl (Nat.le_of_ble_eq_true rfl) rfl (fun p e s m args below meth c C hr hlk => ?_)
  have hf := F_X5_isLane.eq_1 k
  refine z_iload_n C dX5_isLane_0 rfl 0 rfl ?_
  refine z_if_lt (tgt := 13) C dX5_isLane_1 (by decide) (fun c1 => ?_) (fun c1 => ?_)
  · rw [if_pos c1] at hf
    refine z_iconst (v := (0 : Int32)) C dX5_isLane_13 (by decide) ?_
    exact z_zretR C hr hlk rfl (by rw [hf]) dX5_isLane_14
  · rw [if_neg c1] at hf
    refine z_iload_n C dX5_isLane_4 rfl 0 rfl ?_
    refine z_iconst (v := (3 : Int32)) C dX5_isLane_5 (by decide) ?_
    refine z_icmp_ge (tgt := 13) C dX5_isLane_6 (by decide) (fun c6 => ?_) (fun c6 => ?_)
    · rw [if_pos c6] at hf
      refine z_iconst (v := (0 : Int32)) C dX5_isLane_13 (by decide) ?_
      exact z_zretR C hr hlk rfl (by rw [hf]) dX5_isLane_14
    · rw [if_neg c6] at hf
      refine z_iconst (v := (1 : Int32)) C dX5_isLane_9 (by decide) ?_
      refine z_goto (tgt := 14) C dX5_isLane_10 (by decide) ?_
      exact z_zretR C hr hlk rfl (by rw [hf]) dX5_isLane_14
-- X5_isKind
def F_X5_isKind (k : Int32) : Int32 :=
  (if k < 0 then (0 : Int32) else (if (2 : Int32) < k then (0 : Int32) else (1 : Int32)))
set_option maxHeartbeats 4000000 in
set_option maxRecDepth 100000 in
theorem c_X5_isKind (l : Launch) (D : va_G) (cI cO : ClassId) (k : Int32) : zR l yX5_isKind wsX5_isKind ({ frames := 0, cells := 0, slots := 0, locals := 0 } : Room) D cI cO [.int k] [] (some (.int (F_X5_isKind k))) := by
  refine zR_of (nL := 1) (cc := cX5_isKind) (ret := some .boolean) (lv := [(0, .int k)]) (by decide +kernel) rfl (Nat.le_of_ble_eq_true rfl) rfl (fun p e s m args below meth c C hr hlk => ?_)
  have hf := F_X5_isKind.eq_1 k
  refine z_iload_n C dX5_isKind_0 rfl 0 rfl ?_
  refine z_if_lt (tgt := 13) C dX5_isKind_1 (by decide) (fun c1 => ?_) (fun c1 => ?_)
  · rw [if_pos c1] at hf
    refine z_iconst (v := (0 : Int32)) C dX5_isKind_13 (by decide) ?_
    exact z_zretR C hr hlk rfl (by rw [hf]) dX5_isKind_14
  · rw [if_neg c1] at hf
    refine z_iload_n C dX5_isKind_4 rfl 0 rfl ?_
    refine z_iconst (v := (2 : Int32)) C dX5_isKind_5 (by decide) ?_
    refine z_icmp_gt (tgt := 13) C dX5_isKind_6 (by decide) (fun c6 => ?_) (fun c6 => ?_)
    · rw [if_pos c6] at hf
      refine z_iconst (v := (0 : Int32)) C dX5_isKind_13 (by decide) ?_
      exact z_zretR C hr hlk rfl (by rw [hf]) dX5_isKind_14
    · rw [if_neg c6] at hf
      refine z_iconst (v := (1 : Int32)) C dX5_isKind_9 (by decide) ?_
      refine z_goto (tgt := 14) C dX5_isKind_10 (by decide) ?_
      exact z_zretR C hr hlk rfl (by rw [hf]) dX5_isKind_14
-- X5_isBend
def F_X5_isBend (k : Int32) : Int32 :=
  (if k < 0 then (0 : Int32) else (if (10 : Int32) ≤ k then (0 : Int32) else (1 : Int32)))
set_option maxHeartbeats 4000000 in
set_option maxRecDepth 100000 in
theorem c_X5_isBend (l : Launch) (D : va_G) (cI cO : ClassId) (k : Int32) : zR l yX5_isBend wsX5_isBend ({ frames := 0, cells := 0, slots := 0, locals := 0 } : Room) D cI cO [.int k] [] (some (.int (F_X5_isBend k))) := by
  refine zR_of (nL := 1) (cc := cX5_isBend) (ret := some .boolean) (lv := [(0, .int k)]) (by decide +kernel) rfl (Nat.le_of_ble_eq_true rfl) rfl (fun p e s m args below meth c C hr hlk => ?_)
  have hf := F_X5_isBend.eq_1 k
  refine z_iload_n C dX5_isBend_0 rfl 0 rfl ?_
  refine z_if_lt (tgt := 14) C dX5_isBend_1 (by decide) (fun c1 => ?_) (fun c1 => ?_)
  · rw [if_pos c1] at hf
    refine z_iconst (v := (0 : Int32)) C dX5_isBend_14 (by decide) ?_
    exact z_zretR C hr hlk rfl (by rw [hf]) dX5_isBend_15
  · rw [if_neg c1] at hf
    refine z_iload_n C dX5_isBend_4 rfl 0 rfl ?_
    refine z_bipush (v := (10 : Int32)) C dX5_isBend_5 (by decide) ?_
    refine z_icmp_ge (tgt := 14) C dX5_isBend_7 (by decide) (fun c7 => ?_) (fun c7 => ?_)
    · rw [if_pos c7] at hf
      refine z_iconst (v := (0 : Int32)) C dX5_isBend_14 (by decide) ?_
      exact z_zretR C hr hlk rfl (by rw [hf]) dX5_isBend_15
    · rw [if_neg c7] at hf
      refine z_iconst (v := (1 : Int32)) C dX5_isBend_10 (by decide) ?_
      refine z_goto (tgt := 15) C dX5_isBend_11 (by decide) ?_
      exact z_zretR C hr hlk rfl (by rw [hf]) dX5_isBend_15
-- X5_isWish
def F_X5_isWish (k : Int32) : Int32 :=
  (if k < 0 then (0 : Int32) else (if (6 : Int32) ≤ k then (0 : Int32) else (1 : Int32)))
set_option maxHeartbeats 4000000 in
set_option maxRecDepth 100000 in
theorem c_X5_isWish (l : Launch) (D : va_G) (cI cO : ClassId) (k : Int32) : zR l yX5_isWish wsX5_isWish ({ frames := 0, cells := 0, slots := 0, locals := 0 } : Room) D cI cO [.int k] [] (some (.int (F_X5_isWish k))) := by
  refine zR_of (nL := 1) (cc := cX5_isWish) (ret := some .boolean) (lv := [(0, .int k)]) (by decide +kernel) rfl (Nat.le_of_ble_eq_true rfl) rfl (fun p e s m args below meth c C hr hlk => ?_)
  have hf := F_X5_isWish.eq_1 k
  refine z_iload_n C dX5_isWish_0 rfl 0 rfl ?_
  refine z_if_lt (tgt := 14) C dX5_isWish_1 (by decide) (fun c1 => ?_) (fun c1 => ?_)
  · rw [if_pos c1] at hf
    refine z_iconst (v := (0 : Int32)) C dX5_isWish_14 (by decide) ?_
    exact z_zretR C hr hlk rfl (by rw [hf]) dX5_isWish_15
  · rw [if_neg c1] at hf
    refine z_iload_n C dX5_isWish_4 rfl 0 rfl ?_
    refine z_bipush (v := (6 : Int32)) C dX5_isWish_5 (by decide) ?_
    refine z_icmp_ge (tgt := 14) C dX5_isWish_7 (by decide) (fun c7 => ?_) (fun c7 => ?_)
    · rw [if_pos c7] at hf
      refine z_iconst (v := (0 : Int32)) C dX5_isWish_14 (by decide) ?_
      exact z_zretR C hr hlk rfl (by rw [hf]) dX5_isWish_15
    · rw [if_neg c7] at hf
      refine z_iconst (v := (1 : Int32)) C dX5_isWish_10 (by decide) ?_
      refine z_goto (tgt := 15) C dX5_isWish_11 (by decide) ?_
      exact z_zretR C hr hlk rfl (by rw [hf]) dX5_isWish_15
-- X5_isToldOfCentury
def F_X5_isToldOfCentury (k : Int32) : Int32 :=
  (if k < 0 then (0 : Int32) else (if k ≤ (4 : Int32) then (1 : Int32) else (if k < (10 : Int32) then (0 : Int32) else (if (19 : Int32) ≤ k then (0 : Int32) else (1 : Int32)))))
set_option maxHeartbeats 4000000 in
set_option maxRecDepth 100000 in
theorem c_X5_isToldOfCentury (l : Launch) (D : va_G) (cI cO : ClassId) (k : Int32) : zR l yX5_isToldOfCentury wsX5_isToldOfCentury ({ frames := 0, cells := 0, slots := 0, locals := 0 } : Room) D cI cO [.int k] [] (some (.int (F_X5_isToldOfCentury k))) := by
  refine zR_of (nL := 1) (cc := cX5_isToldOfCentury) (ret := some .boolean) (lv := [(0, .int k)]) (by decide +kernel) rfl (Nat.le_of_ble_eq_true rfl) rfl (fun p e s m args below meth c C hr hlk => ?_)
  have hf := F_X5_isToldOfCentury.eq_1 k
  refine z_iload_n C dX5_isToldOfCentury_0 rfl 0 rfl ?_
  refine z_if_lt (tgt := 9) C dX5_isToldOfCentury_1 (by decide) (fun c1 => ?_) (fun c1 => ?_)
  · rw [if_pos c1] at hf
    refine z_iload_n C dX5_isToldOfCentury_9 rfl 0 rfl ?_
    refine z_bipush (v := (10 : Int32)) C dX5_isToldOfCentury_10 (by decide) ?_
    refine z_icmp_lt (tgt := 25) C dX5_isToldOfCentury_12 (by decide) (fun _ => ?_) (fun h9 => absurd ((zl_lt (x := k) (z := 10) (by decide)).mpr (by have q0 := (zl_lt (x := k) (z := 0) (by decide)).mp c1; omega)) h9)
    refine z_iconst (v := (0 : Int32)) C dX5_isToldOfCentury_25 (by decide) ?_
    exact z_zretR C hr hlk rfl (by rw [hf]) dX5_isToldOfCentury_26
  · rw [if_neg c1] at hf
    refine z_iload_n C dX5_isToldOfCentury_4 rfl 0 rfl ?_
    refine z_iconst (v := (4 : Int32)) C dX5_isToldOfCentury_5 (by decide) ?_
    refine z_icmp_le (tgt := 21) C dX5_isToldOfCentury_6 (by decide) (fun c6 => ?_) (fun c6 => ?_)
    · rw [if_pos c6] at hf
      refine z_iconst (v := (1 : Int32)) C dX5_isToldOfCentury_21 (by decide) ?_
      refine z_goto (tgt := 26) C dX5_isToldOfCentury_22 (by decide) ?_
      exact z_zretR C hr hlk rfl (by rw [hf]) dX5_isToldOfCentury_26
    · rw [if_neg c6] at hf
      refine z_iload_n C dX5_isToldOfCentury_9 rfl 0 rfl ?_
      refine z_bipush (v := (10 : Int32)) C dX5_isToldOfCentury_10 (by decide) ?_
      refine z_icmp_lt (tgt := 25) C dX5_isToldOfCentury_12 (by decide) (fun c12 => ?_) (fun c12 => ?_)
      · rw [if_pos c12] at hf
        refine z_iconst (v := (0 : Int32)) C dX5_isToldOfCentury_25 (by decide) ?_
        exact z_zretR C hr hlk rfl (by rw [hf]) dX5_isToldOfCentury_26
      · rw [if_neg c12] at hf
        refine z_iload_n C dX5_isToldOfCentury_15 rfl 0 rfl ?_
        refine z_bipush (v := (19 : Int32)) C dX5_isToldOfCentury_16 (by decide) ?_
        refine z_icmp_ge (tgt := 25) C dX5_isToldOfCentury_18 (by decide) (fun c18 => ?_) (fun c18 => ?_)
        · rw [if_pos c18] at hf
          refine z_iconst (v := (0 : Int32)) C dX5_isToldOfCentury_25 (by decide) ?_
          exact z_zretR C hr hlk rfl (by rw [hf]) dX5_isToldOfCentury_26
        · rw [if_neg c18] at hf
          refine z_iconst (v := (1 : Int32)) C dX5_isToldOfCentury_21 (by decide) ?_
          refine z_goto (tgt := 26) C dX5_isToldOfCentury_22 (by decide) ?_
          exact z_zretR C hr hlk rfl (by rw [hf]) dX5_isToldOfCentury_26
theorem isBend_b (k : Int32) : F_X5_isBend k = 0 ∨ F_X5_isBend k = 1 := by
  rw [F_X5_isBend]
  split
  · exact Or.inl rfl
  · split
    · exact Or.inl rfl
    · exact Or.inr rfl
theorem isSheet_ix {k : Int32} (h : ¬ F_X5_isSheet k = 0) : vp_in k 4 := by
  rw [F_X5_isSheet] at h
  by_cases c1 : k < 0
  · rw [if_pos c1] at h; exact absurd rfl h
  · rw [if_neg c1] at h
    by_cases c2 : 4 ≤ k
    · rw [if_pos c2] at h; exact absurd rfl h
    · exact z_in (N := 4) (by decide) c1 (Int32.not_le.mp c2)
-- X5_isAct
def F_X5_isAct (a : Int32) (b : Int32) : Int32 :=
  (if (F_X5_isKind b) = 0 then (if b = (3 : Int32) then (if a < 0 then (0 : Int32) else (if (99 : Int32) < a then (0 : Int32) else (1 : Int32))) else (if b = (4 : Int32) then (if a = 0 then (1 : Int32) else (0 : Int32)) else (0 : Int32))) else (F_X5_isBend a))
set_option maxHeartbeats 4000000 in
set_option maxRecDepth 100000 in
theorem c_X5_isAct (l : Launch) (D : va_G) (cI cO : ClassId) (a : Int32) (b : Int32) : zR l yX5_isAct wsX5_isAct ({ frames := 1, cells := 0, slots := 0, locals := 20 } : Room) D cI cO [.int a, .int b] [] (some (.int (F_X5_isAct a b))) := by
  refine zR_of (nL := 2) (cc := cX5_isAct) (ret := some .boolean) (lv := [(0, .int a), (1, .int b)]) (by decide +kernel) rfl (Nat.le_of_ble_eq_true rfl) rfl (fun p e s m args below meth c C hr hlk => ?_)
  have hf := F_X5_isAct.eq_1 a b
  refine z_iload_n C dX5_isAct_0 rfl 1 rfl ?_
  refine z_cSR (As := [.int b]) C (c_X5_isKind l D cI cO b) (va_cwS 1 C.2.2.2.2.1 gX5_isAct_X5_isKind rfl rfl rfl hdS_X5_isKind ⟨Nat.le_of_ble_eq_true rfl, Nat.le_of_ble_eq_true rfl⟩) [] rfl rfl rfl _ rfl (Nat.le_of_ble_eq_true rfl) ⟨Nat.zero_le _, Nat.zero_le _⟩ dX5_isAct_1 ?_
  generalize hu1 : (F_X5_isKind b) = u1 at hf ⊢
  refine z_if_eq (tgt := 12) C dX5_isAct_4 (by decide) (fun c4 => ?_) (fun c4 => ?_)
  · rw [if_pos c4] at hf
    have b4 := c4
    rw [← hu1] at c4
    refine z_iload_n C dX5_isAct_12 rfl 1 rfl ?_
    refine z_iconst (v := (3 : Int32)) C dX5_isAct_13 (by decide) ?_
    refine z_icmp_ne (tgt := 33) C dX5_isAct_14 (by decide) (fun c14 => ?_) (fun c14 => ?_)
    · rw [if_neg c14] at hf
      refine z_iload_n C dX5_isAct_33 rfl 1 rfl ?_
      refine z_iconst (v := (4 : Int32)) C dX5_isAct_34 (by decide) ?_
      refine z_icmp_ne (tgt := 46) C dX5_isAct_35 (by decide) (fun c35 => ?_) (fun c35 => ?_)
      · rw [if_neg c35] at hf
        refine z_iconst (v := (0 : Int32)) C dX5_isAct_46 (by decide) ?_
        exact z_zretR C hr hlk rfl (by rw [hf]) dX5_isAct_47
      · rw [if_pos c35] at hf
        refine z_iload_n C dX5_isAct_38 rfl 0 rfl ?_
        refine z_if_ne (tgt := 46) C dX5_isAct_39 (by decide) (fun c39 => ?_) (fun c39 => ?_)
        · rw [if_neg c39] at hf
          refine z_iconst (v := (0 : Int32)) C dX5_isAct_46 (by decide) ?_
          exact z_zretR C hr hlk rfl (by rw [hf]) dX5_isAct_47
        · rw [if_pos c39] at hf
          refine z_iconst (v := (1 : Int32)) C dX5_isAct_42 (by decide) ?_
          refine z_goto (tgt := 47) C dX5_isAct_43 (by decide) ?_
          exact z_zretR C hr hlk rfl (by rw [hf]) dX5_isAct_47
    · rw [if_pos c14] at hf
      refine z_iload_n C dX5_isAct_17 rfl 0 rfl ?_
      refine z_if_lt (tgt := 31) C dX5_isAct_18 (by decide) (fun c18 => ?_) (fun c18 => ?_)
      · rw [if_pos c18] at hf
        refine z_iconst (v := (0 : Int32)) C dX5_isAct_31 (by decide) ?_
        exact z_zretR C hr hlk rfl (by rw [hf]) dX5_isAct_32
      · rw [if_neg c18] at hf
        refine z_iload_n C dX5_isAct_21 rfl 0 rfl ?_
        refine z_bipush (v := (99 : Int32)) C dX5_isAct_22 (by decide) ?_
        refine z_icmp_gt (tgt := 31) C dX5_isAct_24 (by decide) (fun c24 => ?_) (fun c24 => ?_)
        · rw [if_pos c24] at hf
          refine z_iconst (v := (0 : Int32)) C dX5_isAct_31 (by decide) ?_
          exact z_zretR C hr hlk rfl (by rw [hf]) dX5_isAct_32
        · rw [if_neg c24] at hf
          refine z_iconst (v := (1 : Int32)) C dX5_isAct_27 (by decide) ?_
          refine z_goto (tgt := 32) C dX5_isAct_28 (by decide) ?_
          exact z_zretR C hr hlk rfl (by rw [hf]) dX5_isAct_32
  · rw [if_neg c4] at hf
    have b4 := c4
    rw [← hu1] at c4
    refine z_iload_n C dX5_isAct_7 rfl 0 rfl ?_
    refine z_cSR (As := [.int a]) C (c_X5_isBend l D cI cO a) (va_cwS 1 C.2.2.2.2.1 gX5_isAct_X5_isBend rfl rfl rfl hdS_X5_isBend ⟨Nat.le_of_ble_eq_true rfl, Nat.le_of_ble_eq_true rfl⟩) [] rfl rfl rfl _ rfl (Nat.le_of_ble_eq_true rfl) ⟨Nat.zero_le _, Nat.zero_le _⟩ dX5_isAct_8 ?_
    generalize hu8 : (F_X5_isBend a) = u8 at hf ⊢
    exact z_zretR C hr hlk (by subst hu8 hu1; exact (z_bool (isBend_b _))) (by rw [hf]) dX5_isAct_11
-- X5_keyNumber
def F_X5_keyNumber (a : Int32) (b : Int32) : Int32 :=
  (((10 : Int32) * a) + b)
set_option maxHeartbeats 4000000 in
set_option maxRecDepth 100000 in
theorem c_X5_keyNumber (l : Launch) (D : va_G) (cI cO : ClassId) (a : Int32) (b : Int32) : zR l yX5_keyNumber wsX5_keyNumber ({ frames := 0, cells := 0, slots := 0, locals := 0 } : Room) D cI cO [.int a, .int b] [] (some (.int (F_X5_keyNumber a b))) := by
  refine zR_of (nL := 2) (cc := cX5_keyNumber) (ret := some .int) (lv := [(0, .int a), (1, .int b)]) (by decide +kernel) rfl (Nat.le_of_ble_eq_true rfl) rfl (fun p e s m args below meth c C hr hlk => ?_)
  have hf := F_X5_keyNumber.eq_1 a b
  refine z_bipush (v := (10 : Int32)) C dX5_keyNumber_0 (by decide) ?_
  refine z_iload_n C dX5_keyNumber_2 rfl 0 rfl ?_
  refine z_imul C dX5_keyNumber_3 ?_
  refine z_iload_n C dX5_keyNumber_4 rfl 1 rfl ?_
  refine z_iadd C dX5_keyNumber_5 ?_
  exact z_iretR C hr hlk (by rw [hf]) dX5_keyNumber_6
theorem z_jnle {x N : Int32} {j n : Nat} (e : x = nI j) (hj : j < 2 ^ 31) (hN : N.toInt = n) (h : ¬ x ≤ N) : n < j := by
  have h1 : ¬ x.toInt ≤ N.toInt := fun q => h (Int32.le_iff_toInt_le.mpr q)
  rw [e, nI_toInt hj, hN] at h1
  omega
theorem z_ne0 {x : Int32} (h : ¬ x ≤ 1) : ¬ x = 0 := fun e => h (by rw [e]; decide)
-- X5_greatestShared
def F_X5_greatestShared_k2 (x2_2 : Int32) : Int32 :=
  (1 : Int32)
def F_X5_greatestShared_l2 (a : Int32) (K_ : Int32 → Int32) : Nat → Int32 → Int32
  | 0, x2_2 => K_ x2_2
  | d2 + 1, x2_2 => (if x2_2 ≤ (1 : Int32) then (K_ x2_2) else (if (a - a / x2_2 * x2_2) = 0 then (if ((10 : Int32) - (10 : Int32) / x2_2 * x2_2) = 0 then x2_2 else (F_X5_greatestShared_l2 a K_ d2 (x2_2 + (-1 : Int32)))) else (F_X5_greatestShared_l2 a K_ d2 (x2_2 + (-1 : Int32)))))
def F_X5_greatestShared (a : Int32) : Int32 :=
  (F_X5_greatestShared_l2 a F_X5_greatestShared_k2 11 (10 : Int32))
set_option maxHeartbeats 4000000 in
set_option maxRecDepth 100000 in
theorem c_X5_greatestShared (l : Launch) (D : va_G) (cI cO : ClassId) (a : Int32) : zR l yX5_greatestShared wsX5_greatestShared ({ frames := 0, cells := 0, slots := 0, locals := 0 } : Room) D cI cO [.int a, .int (10 : Int32)] [] (some (.int (F_X5_greatestShared a))) := by
  refine zR_of (nL := 3) (cc := cX5_greatestShared) (ret := some .int) (lv := [(0, .int a), (1, .int (10 : Int32))]) (by decide +kernel) rfl (Nat.le_of_ble_eq_true rfl) rfl (fun p e s m args below meth c C hr hlk => ?_)
  have hf := F_X5_greatestShared.eq_1 a
  refine z_iload_n C dX5_greatestShared_0 rfl 1 rfl ?_
  refine z_istore_n C [(0, .int a), (1, .int (10 : Int32)), (2, .int (10 : Int32))] dX5_greatestShared_1 rfl (by decide) [1, 2, 0] rfl ?_
  have X2 : ∀ (x2_2 : Int32), F_X5_greatestShared a = F_X5_greatestShared_k2 x2_2 → zG p l e ({ frames := 0, cells := 0, slots := 0, locals := 0 } : Room) s m args below meth c D (fun _ => True) (zXr s) 3 0 0 (MQ below (zQr (some (.int (F_X5_greatestShared a)))) args s 0 0 (fun _ => False)) 27 [(0, .int a), (1, .int (10 : Int32)), (2, .int x2_2)] [] [] := by
    intro x2_2 hf
    rw [F_X5_greatestShared_k2] at hf
    skip
    refine z_iconst (v := (1 : Int32)) C dX5_greatestShared_27 (by decide) ?_
    exact z_iretR C hr hlk (by rw [hf]) dX5_greatestShared_28
  have L2 : ∀ (d2 : Nat) (j : Nat) (x2_2 : Int32) (e2 : x2_2 = nI j) (hj : j ≤ 10) (hd : j < d2), F_X5_greatestShared a = F_X5_greatestShared_l2 a F_X5_greatestShared_k2 d2 x2_2 → zG p l e ({ frames := 0, cells := 0, slots := 0, locals := 0 } : Room) s m args below meth c D (fun _ => True) (zXr s) 3 0 0 (MQ below (zQr (some (.int (F_X5_greatestShared a)))) args s 0 0 (fun _ => False)) 2 [(0, .int a), (1, .int (10 : Int32)), (2, .int x2_2)] [] [] := by
    intro d2
    induction d2 with
    | zero =>
      intro j x2_2 e2 hj hd hf
      exfalso; omega
    | succ d2 ih2 =>
      intro j x2_2 e2 hj hd hf
      rw [F_X5_greatestShared_l2] at hf
      skip
      refine z_iload_n C dX5_greatestShared_2 rfl 2 rfl ?_
      refine z_iconst (v := (1 : Int32)) C dX5_greatestShared_3 (by decide) ?_
      refine z_icmp_le (tgt := 27) C dX5_greatestShared_4 (by decide) (fun c4 => ?_) (fun c4 => ?_)
      · rw [if_pos c4] at hf
        exact X2 x2_2  hf
      · rw [if_neg c4] at hf
        refine z_iload_n C dX5_greatestShared_7 rfl 0 rfl ?_
        refine z_iload_n C dX5_greatestShared_8 rfl 2 rfl ?_
        refine z_irem C dX5_greatestShared_9 (z_ne0 c4) ?_
        refine z_if_ne (tgt := 21) C dX5_greatestShared_10 (by decide) (fun c10 => ?_) (fun c10 => ?_)
        · rw [if_neg c10] at hf
          refine z_iinc (v := (x2_2 + (-1 : Int32))) C [(0, .int a), (1, .int (10 : Int32)), (2, .int (x2_2 + (-1 : Int32)))] dX5_greatestShared_21 2 rfl (by rfl) (by decide) [1, 2, 0] rfl ?_
          refine z_goto (tgt := 2) C dX5_greatestShared_24 (by decide) ?_
          exact ih2 (j - 1) (x2_2 + (-1 : Int32)) (by rw [e2]; exact sb_m1 (by have := z_jnle e2 (by omega) (n := 1) (by decide) c4; omega)) (by omega) (by have := z_jnle e2 (by omega) (n := 1) (by decide) c4; omega) hf
        · rw [if_pos c10] at hf
          refine z_iload_n C dX5_greatestShared_13 rfl 1 rfl ?_
          refine z_iload_n C dX5_greatestShared_14 rfl 2 rfl ?_
          refine z_irem C dX5_greatestShared_15 (z_ne0 c4) ?_
          refine z_if_ne (tgt := 21) C dX5_greatestShared_16 (by decide) (fun c16 => ?_) (fun c16 => ?_)
          · rw [if_neg c16] at hf
            refine z_iinc (v := (x2_2 + (-1 : Int32))) C [(0, .int a), (1, .int (10 : Int32)), (2, .int (x2_2 + (-1 : Int32)))] dX5_greatestShared_21 2 rfl (by rfl) (by decide) [1, 2, 0] rfl ?_
            refine z_goto (tgt := 2) C dX5_greatestShared_24 (by decide) ?_
            exact ih2 (j - 1) (x2_2 + (-1 : Int32)) (by rw [e2]; exact sb_m1 (by have := z_jnle e2 (by omega) (n := 1) (by decide) c4; omega)) (by omega) (by have := z_jnle e2 (by omega) (n := 1) (by decide) c4; omega) hf
          · rw [if_pos c16] at hf
            refine z_iload_n C dX5_greatestShared_19 rfl 2 rfl ?_
            exact z_iretR C hr hlk (by rw [hf]) dX5_greatestShared_20
  exact L2 11 10 (10 : Int32) (by rfl) (by omega) (by omega) hf
-- X5_goesOn
def F_X5_goesOn (k : Int32) (cd : Int32) : Int32 :=
  (if k = 0 then (if cd = (119 : Int32) then (1 : Int32) else (0 : Int32)) else (if k = (1 : Int32) then (if cd < (49 : Int32) then (0 : Int32) else (if (53 : Int32) < cd then (0 : Int32) else (1 : Int32))) else (if k = (2 : Int32) then (if cd < (48 : Int32) then (0 : Int32) else (if (53 : Int32) < cd then (0 : Int32) else (1 : Int32))) else (if k < (39 : Int32) then (if ((k - (3 : Int32)) - (k - (3 : Int32)) / (4 : Int32) * (4 : Int32)) = (0 : Int32) then (if cd = (59 : Int32) then (1 : Int32) else (0 : Int32)) else (if ((k - (3 : Int32)) - (k - (3 : Int32)) / (4 : Int32) * (4 : Int32)) = (1 : Int32) then (if cd = (112 : Int32) then (1 : Int32) else (if cd = (99 : Int32) then (1 : Int32) else (if cd = (100 : Int32) then (1 : Int32) else (0 : Int32)))) else (if cd < (48 : Int32) then (0 : Int32) else (if (57 : Int32) < cd then (0 : Int32) else (1 : Int32))))) else (0 : Int32)))))
set_option maxHeartbeats 4000000 in
set_option maxRecDepth 100000 in
theorem c_X5_goesOn (l : Launch) (D : va_G) (cI cO : ClassId) (k : Int32) (cd : Int32) : zR l yX5_goesOn wsX5_goesOn ({ frames := 0, cells := 0, slots := 0, locals := 0 } : Room) D cI cO [.int k, .int cd] [] (some (.int (F_X5_goesOn k cd))) := by
  refine zR_of (nL := 2) (cc := cX5_goesOn) (ret := some .boolean) (lv := [(0, .int k), (1, .int cd)]) (by decide +kernel) rfl (Nat.le_of_ble_eq_true rfl) rfl (fun p e s m args below meth c C hr hlk => ?_)
  have hf := F_X5_goesOn.eq_1 k cd
  refine z_iload_n C dX5_goesOn_0 rfl 0 rfl ?_
  refine z_if_ne (tgt := 16) C dX5_goesOn_1 (by decide) (fun c1 => ?_) (fun c1 => ?_)
  · rw [if_neg c1] at hf
    refine z_iload_n C dX5_goesOn_16 rfl 0 rfl ?_
    refine z_iconst (v := (1 : Int32)) C dX5_goesOn_17 (by decide) ?_
    refine z_icmp_ne (tgt := 39) C dX5_goesOn_18 (by decide) (fun c18 => ?_) (fun c18 => ?_)
    · rw [if_neg c18] at hf
      refine z_iload_n C dX5_goesOn_39 rfl 0 rfl ?_
      refine z_iconst (v := (2 : Int32)) C dX5_goesOn_40 (by decide) ?_
      refine z_icmp_ne (tgt := 62) C dX5_goesOn_41 (by decide) (fun c41 => ?_) (fun c41 => ?_)
      · rw [if_neg c41] at hf
        refine z_iload_n C dX5_goesOn_62 rfl 0 rfl ?_
        refine z_bipush (v := (39 : Int32)) C dX5_goesOn_63 (by decide) ?_
        refine z_icmp_lt (tgt := 70) C dX5_goesOn_65 (by decide) (fun c65 => ?_) (fun c65 => ?_)
        · rw [if_pos c65] at hf
          refine z_iload_n C dX5_goesOn_70 rfl 0 rfl ?_
          refine z_iconst (v := (3 : Int32)) C dX5_goesOn_71 (by decide) ?_
          refine z_isub C dX5_goesOn_72 ?_
          refine z_iconst (v := (4 : Int32)) C dX5_goesOn_73 (by decide) ?_
          refine z_irem C dX5_goesOn_74 (by decide) ?_
          by_cases c75_0 : ((k - (3 : Int32)) - (k - (3 : Int32)) / (4 : Int32) * (4 : Int32)) = (0 : Int32)
          · rw [if_pos c75_0] at hf
            refine z_lookup (tgt := 100) C dX5_goesOn_75 (by decide) (by rw [c75_0] <;> rfl) (by decide) ?_
            refine z_iload_n C dX5_goesOn_100 rfl 1 rfl ?_
            refine z_bipush (v := (59 : Int32)) C dX5_goesOn_101 (by decide) ?_
            refine z_icmp_ne (tgt := 110) C dX5_goesOn_103 (by decide) (fun c103 => ?_) (fun c103 => ?_)
            · rw [if_neg c103] at hf
              refine z_iconst (v := (0 : Int32)) C dX5_goesOn_110 (by decide) ?_
              exact z_zretR C hr hlk rfl (by rw [hf]) dX5_goesOn_111
            · rw [if_pos c103] at hf
              refine z_iconst (v := (1 : Int32)) C dX5_goesOn_106 (by decide) ?_
              refine z_goto (tgt := 111) C dX5_goesOn_107 (by decide) ?_
              exact z_zretR C hr hlk rfl (by rw [hf]) dX5_goesOn_111
          rw [if_neg c75_0] at hf
          by_cases c75_1 : ((k - (3 : Int32)) - (k - (3 : Int32)) / (4 : Int32) * (4 : Int32)) = (1 : Int32)
          · rw [if_pos c75_1] at hf
            refine z_lookup (tgt := 112) C dX5_goesOn_75 (by decide) (by rw [c75_1] <;> rfl) (by decide) ?_
            refine z_iload_n C dX5_goesOn_112 rfl 1 rfl ?_
            refine z_bipush (v := (112 : Int32)) C dX5_goesOn_113 (by decide) ?_
            refine z_icmp_eq (tgt := 130) C dX5_goesOn_115 (by decide) (fun c115 => ?_) (fun c115 => ?_)
            · rw [if_pos c115] at hf
              refine z_iconst (v := (1 : Int32)) C dX5_goesOn_130 (by decide) ?_
              refine z_goto (tgt := 135) C dX5_goesOn_131 (by decide) ?_
              exact z_zretR C hr hlk rfl (by rw [hf]) dX5_goesOn_135
            · rw [if_neg c115] at hf
              refine z_iload_n C dX5_goesOn_118 rfl 1 rfl ?_
              refine z_bipush (v := (99 : Int32)) C dX5_goesOn_119 (by decide) ?_
              refine z_icmp_eq (tgt := 130) C dX5_goesOn_121 (by decide) (fun c121 => ?_) (fun c121 => ?_)
              · rw [if_pos c121] at hf
                refine z_iconst (v := (1 : Int32)) C dX5_goesOn_130 (by decide) ?_
                refine z_goto (tgt := 135) C dX5_goesOn_131 (by decide) ?_
                exact z_zretR C hr hlk rfl (by rw [hf]) dX5_goesOn_135
              · rw [if_neg c121] at hf
                refine z_iload_n C dX5_goesOn_124 rfl 1 rfl ?_
                refine z_bipush (v := (100 : Int32)) C dX5_goesOn_125 (by decide) ?_
                refine z_icmp_ne (tgt := 134) C dX5_goesOn_127 (by decide) (fun c127 => ?_) (fun c127 => ?_)
                · rw [if_neg c127] at hf
                  refine z_iconst (v := (0 : Int32)) C dX5_goesOn_134 (by decide) ?_
                  exact z_zretR C hr hlk rfl (by rw [hf]) dX5_goesOn_135
                · rw [if_pos c127] at hf
                  refine z_iconst (v := (1 : Int32)) C dX5_goesOn_130 (by decide) ?_
                  refine z_goto (tgt := 135) C dX5_goesOn_131 (by decide) ?_
                  exact z_zretR C hr hlk rfl (by rw [hf]) dX5_goesOn_135
          rw [if_neg c75_1] at hf
          refine z_lookup (tgt := 136) C dX5_goesOn_75 (by decide) (z_lkout2 c75_0 c75_1) (by decide) ?_
          refine z_iload_n C dX5_goesOn_136 rfl 1 rfl ?_
          refine z_bipush (v := (48 : Int32)) C dX5_goesOn_137 (by decide) ?_
          refine z_icmp_lt (tgt := 152) C dX5_goesOn_139 (by decide) (fun c139 => ?_) (fun c139 => ?_)
          · rw [if_pos c139] at hf
            refine z_iconst (v := (0 : Int32)) C dX5_goesOn_152 (by decide) ?_
            exact z_zretR C hr hlk rfl (by rw [hf]) dX5_goesOn_153
          · rw [if_neg c139] at hf
            refine z_iload_n C dX5_goesOn_142 rfl 1 rfl ?_
            refine z_bipush (v := (57 : Int32)) C dX5_goesOn_143 (by decide) ?_
            refine z_icmp_gt (tgt := 152) C dX5_goesOn_145 (by decide) (fun c145 => ?_) (fun c145 => ?_)
            · rw [if_pos c145] at hf
              refine z_iconst (v := (0 : Int32)) C dX5_goesOn_152 (by decide) ?_
              exact z_zretR C hr hlk rfl (by rw [hf]) dX5_goesOn_153
            · rw [if_neg c145] at hf
              refine z_iconst (v := (1 : Int32)) C dX5_goesOn_148 (by decide) ?_
              refine z_goto (tgt := 153) C dX5_goesOn_149 (by decide) ?_
              exact z_zretR C hr hlk rfl (by rw [hf]) dX5_goesOn_153
        · rw [if_neg c65] at hf
          refine z_iconst (v := (0 : Int32)) C dX5_goesOn_68 (by decide) ?_
          exact z_zretR C hr hlk rfl (by rw [hf]) dX5_goesOn_69
      · rw [if_pos c41] at hf
        refine z_iload_n C dX5_goesOn_44 rfl 1 rfl ?_
        refine z_bipush (v := (48 : Int32)) C dX5_goesOn_45 (by decide) ?_
        refine z_icmp_lt (tgt := 60) C dX5_goesOn_47 (by decide) (fun c47 => ?_) (fun c47 => ?_)
        · rw [if_pos c47] at hf
          refine z_iconst (v := (0 : Int32)) C dX5_goesOn_60 (by decide) ?_
          exact z_zretR C hr hlk rfl (by rw [hf]) dX5_goesOn_61
        · rw [if_neg c47] at hf
          refine z_iload_n C dX5_goesOn_50 rfl 1 rfl ?_
          refine z_bipush (v := (53 : Int32)) C dX5_goesOn_51 (by decide) ?_
          refine z_icmp_gt (tgt := 60) C dX5_goesOn_53 (by decide) (fun c53 => ?_) (fun c53 => ?_)
          · rw [if_pos c53] at hf
            refine z_iconst (v := (0 : Int32)) C dX5_goesOn_60 (by decide) ?_
            exact z_zretR C hr hlk rfl (by rw [hf]) dX5_goesOn_61
          · rw [if_neg c53] at hf
            refine z_iconst (v := (1 : Int32)) C dX5_goesOn_56 (by decide) ?_
            refine z_goto (tgt := 61) C dX5_goesOn_57 (by decide) ?_
            exact z_zretR C hr hlk rfl (by rw [hf]) dX5_goesOn_61
    · rw [if_pos c18] at hf
      refine z_iload_n C dX5_goesOn_21 rfl 1 rfl ?_
      refine z_bipush (v := (49 : Int32)) C dX5_goesOn_22 (by decide) ?_
      refine z_icmp_lt (tgt := 37) C dX5_goesOn_24 (by decide) (fun c24 => ?_) (fun c24 => ?_)
      · rw [if_pos c24] at hf
        refine z_iconst (v := (0 : Int32)) C dX5_goesOn_37 (by decide) ?_
        exact z_zretR C hr hlk rfl (by rw [hf]) dX5_goesOn_38
      · rw [if_neg c24] at hf
        refine z_iload_n C dX5_goesOn_27 rfl 1 rfl ?_
        refine z_bipush (v := (53 : Int32)) C dX5_goesOn_28 (by decide) ?_
        refine z_icmp_gt (tgt := 37) C dX5_goesOn_30 (by decide) (fun c30 => ?_) (fun c30 => ?_)
        · rw [if_pos c30] at hf
          refine z_iconst (v := (0 : Int32)) C dX5_goesOn_37 (by decide) ?_
          exact z_zretR C hr hlk rfl (by rw [hf]) dX5_goesOn_38
        · rw [if_neg c30] at hf
          refine z_iconst (v := (1 : Int32)) C dX5_goesOn_33 (by decide) ?_
          refine z_goto (tgt := 38) C dX5_goesOn_34 (by decide) ?_
          exact z_zretR C hr hlk rfl (by rw [hf]) dX5_goesOn_38
  · rw [if_pos c1] at hf
    refine z_iload_n C dX5_goesOn_4 rfl 1 rfl ?_
    refine z_bipush (v := (119 : Int32)) C dX5_goesOn_5 (by decide) ?_
    refine z_icmp_ne (tgt := 14) C dX5_goesOn_7 (by decide) (fun c7 => ?_) (fun c7 => ?_)
    · rw [if_neg c7] at hf
      refine z_iconst (v := (0 : Int32)) C dX5_goesOn_14 (by decide) ?_
      exact z_zretR C hr hlk rfl (by rw [hf]) dX5_goesOn_15
    · rw [if_pos c7] at hf
      refine z_iconst (v := (1 : Int32)) C dX5_goesOn_10 (by decide) ?_
      refine z_goto (tgt := 15) C dX5_goesOn_11 (by decide) ?_
      exact z_zretR C hr hlk rfl (by rw [hf]) dX5_goesOn_15
-- X5_firstFault
def F_X5_firstFault_k2 (tn : Int32) (x3_2 : Int32) : Int32 :=
  (if tn < (7 : Int32) then tn else (if ((tn - (3 : Int32)) - (tn - (3 : Int32)) / (4 : Int32) * (4 : Int32)) = 0 then (-9 : Int32) else tn))
def F_X5_firstFault_l2 (lg : Int32) (cl : Nat → Int32) (ti : Int32) (tn : Int32) (K_ : Int32 → Int32) : Nat → Int32 → Int32
  | 0, x3_2 => K_ x3_2
  | d2 + 1, x3_2 => (if tn ≤ x3_2 then (K_ x3_2) else (if (F_X5_goesOn x3_2 (F_X3_at lg cl (ti + x3_2))) = 0 then x3_2 else (F_X5_firstFault_l2 lg cl ti tn K_ d2 (x3_2 + (1 : Int32)))))
def F_X5_firstFault (lg : Int32) (cl : Nat → Int32) (ti : Int32) (tn : Int32) : Int32 :=
  (F_X5_firstFault_l2 lg cl ti tn (F_X5_firstFault_k2 tn) 61 (0 : Int32))
set_option maxHeartbeats 4000000 in
set_option maxRecDepth 100000 in
theorem c_X5_firstFault (l : Launch) (D : va_G) (cI cO : ClassId) (h3 : Nat) (b1 : Nat) (ln : Int32) (lg : Int32) (cl : Nat → Int32) (ti : Int32) (tn : Int32) (N0 : Nat) (hlg : lg ≤ 60) (hTN : tn = nI N0) (hN60 : N0 ≤ 60) : zR l yX5_firstFault wsX5_firstFault ({ frames := 2, cells := 0, slots := 0, locals := 43 } : Room) D cI cO [.ref h3, .int ti, .int tn] [(h3, .inr (3, [.ref b1, .int ln, .int lg])), (b1, .inl (cI, 60, .inl cl))] (some (.int (F_X5_firstFault lg cl ti tn))) := by
  refine zR_of (nL := 4) (cc := cX5_firstFault) (ret := some .int) (lv := [(0, .ref h3), (1, .int ti), (2, .int tn)]) (by decide +kernel) rfl (Nat.le_of_ble_eq_true rfl) rfl (fun p e s m args below meth c C hr hlk => ?_)
  have hf := F_X5_firstFault.eq_1 lg cl ti tn
  refine z_iconst (v := (0 : Int32)) C dX5_firstFault_0 (by decide) ?_
  refine z_istore_n C [(0, .ref h3), (1, .int ti), (2, .int tn), (3, .int (0 : Int32))] dX5_firstFault_1 rfl (by decide) [1, 2, 3, 0] rfl ?_
  have X2 : ∀ (x3_2 : Int32), F_X5_firstFault lg cl ti tn = (F_X5_firstFault_k2 tn) x3_2 → zG p l e ({ frames := 2, cells := 0, slots := 0, locals := 43 } : Room) s m args below meth c D (fun _ => True) (zXr s) 4 0 0 (MQ below (zQr (some (.int (F_X5_firstFault lg cl ti tn)))) args s 0 0 (fun _ => False)) 29 [(0, .ref h3), (1, .int ti), (2, .int tn), (3, .int x3_2)] [] [(h3, .inr (3, [.ref b1, .int ln, .int lg])), (b1, .inl (cI, 60, .inl cl))] := by
    intro x3_2 hf
    rw [F_X5_firstFault_k2] at hf
    skip
    refine z_iload_n C dX5_firstFault_29 rfl 2 rfl ?_
    refine z_bipush (v := (7 : Int32)) C dX5_firstFault_30 (by decide) ?_
    refine z_icmp_lt (tgt := 47) C dX5_firstFault_32 (by decide) (fun c32 => ?_) (fun c32 => ?_)
    · rw [if_pos c32] at hf
      refine z_iconst (v := (0 : Int32)) C dX5_firstFault_47 (by decide) ?_
      refine z_istore_n C [(0, .ref h3), (1, .int ti), (2, .int tn), (3, .int (0 : Int32))] dX5_firstFault_48 rfl (by decide) [1, 2, 3, 0] rfl ?_
      refine z_iload_n C dX5_firstFault_49 rfl 3 rfl ?_
      refine z_if_eq (tgt := 58) C dX5_firstFault_50 (by decide) (fun _ => ?_) (fun h9 => absurd h9 (by decide))
      refine z_iload_n C dX5_firstFault_58 rfl 2 rfl ?_
      exact z_iretR C hr hlk (by rw [hf]) dX5_firstFault_59
    · rw [if_neg c32] at hf
      refine z_iload_n C dX5_firstFault_35 rfl 2 rfl ?_
      refine z_iconst (v := (3 : Int32)) C dX5_firstFault_36 (by decide) ?_
      refine z_isub C dX5_firstFault_37 ?_
      refine z_iconst (v := (4 : Int32)) C dX5_firstFault_38 (by decide) ?_
      refine z_irem C dX5_firstFault_39 (by decide) ?_
      refine z_if_ne (tgt := 47) C dX5_firstFault_40 (by decide) (fun c40 => ?_) (fun c40 => ?_)
      · rw [if_neg c40] at hf
        refine z_iconst (v := (0 : Int32)) C dX5_firstFault_47 (by decide) ?_
        refine z_istore_n C [(0, .ref h3), (1, .int ti), (2, .int tn), (3, .int (0 : Int32))] dX5_firstFault_48 rfl (by decide) [1, 2, 3, 0] rfl ?_
        refine z_iload_n C dX5_firstFault_49 rfl 3 rfl ?_
        refine z_if_eq (tgt := 58) C dX5_firstFault_50 (by decide) (fun _ => ?_) (fun h9 => absurd h9 (by decide))
        refine z_iload_n C dX5_firstFault_58 rfl 2 rfl ?_
        exact z_iretR C hr hlk (by rw [hf]) dX5_firstFault_59
      · rw [if_pos c40] at hf
        refine z_iconst (v := (1 : Int32)) C dX5_firstFault_43 (by decide) ?_
        refine z_goto (tgt := 48) C dX5_firstFault_44 (by decide) ?_
        refine z_istore_n C [(0, .ref h3), (1, .int ti), (2, .int tn), (3, .int (1 : Int32))] dX5_firstFault_48 rfl (by decide) [1, 2, 3, 0] rfl ?_
        refine z_iload_n C dX5_firstFault_49 rfl 3 rfl ?_
        refine z_if_eq (tgt := 58) C dX5_firstFault_50 (by decide) (fun h9 => absurd h9 (by decide)) (fun _ => ?_)
        refine z_bipush (v := (-9 : Int32)) C dX5_firstFault_53 (by decide) ?_
        refine z_goto (tgt := 59) C dX5_firstFault_55 (by decide) ?_
        exact z_iretR C hr hlk (by rw [hf]) dX5_firstFault_59
  have L2 : ∀ (d2 : Nat) (j : Nat) (x3_2 : Int32) (e3 : x3_2 = nI j) (hj : j ≤ N0) (hd : N0 < j + d2), F_X5_firstFault lg cl ti tn = F_X5_firstFault_l2 lg cl ti tn (F_X5_firstFault_k2 tn) d2 x3_2 → zG p l e ({ frames := 2, cells := 0, slots := 0, locals := 43 } : Room) s m args below meth c D (fun _ => True) (zXr s) 4 0 0 (MQ below (zQr (some (.int (F_X5_firstFault lg cl ti tn)))) args s 0 0 (fun _ => False)) 2 [(0, .ref h3), (1, .int ti), (2, .int tn), (3, .int x3_2)] [] [(h3, .inr (3, [.ref b1, .int ln, .int lg])), (b1, .inl (cI, 60, .inl cl))] := by
    intro d2
    induction d2 with
    | zero =>
      intro j x3_2 e3 hj hd hf
      exfalso; omega
    | succ d2 ih2 =>
      intro j x3_2 e3 hj hd hf
      rw [F_X5_firstFault_l2] at hf
      skip
      refine z_iload_n C dX5_firstFault_2 rfl 3 rfl ?_
      refine z_iload_n C dX5_firstFault_3 rfl 2 rfl ?_
      refine z_icmp_ge (tgt := 29) C dX5_firstFault_4 (by decide) (fun c4 => ?_) (fun c4 => ?_)
      · rw [if_pos c4] at hf
        exact X2 x3_2  hf
      · rw [if_neg c4] at hf
        refine z_iload_n C dX5_firstFault_7 rfl 3 rfl ?_
        refine z_aload_n C dX5_firstFault_8 rfl 0 rfl ?_
        refine z_iload_n C dX5_firstFault_9 rfl 1 rfl ?_
        refine z_iload_n C dX5_firstFault_10 rfl 3 rfl ?_
        refine z_iadd C dX5_firstFault_11 ?_
        refine z_cVR (As := [.int (ti + x3_2)]) C (c_X3_at l D cI cO h3 b1 ln lg cl (ti + x3_2) hlg) (cwV 1 C.2.2.2.2.1 gX5_firstFault_X3_at rfl rfl rfl hdV_X3_at ⟨Nat.le_of_ble_eq_true rfl, Nat.le_of_ble_eq_true rfl⟩) [0, 1] rfl rfl 0 rfl rfl rfl _ rfl (Nat.le_of_ble_eq_true rfl) ⟨Nat.zero_le _, Nat.zero_le _⟩ dX5_firstFault_12 ?_
        generalize hu12 : (F_X3_at lg cl (ti + x3_2)) = u12 at hf ⊢
        refine z_cSR (As := [.int x3_2, .int u12]) C (c_X5_goesOn l D cI cO x3_2 u12) (va_cwS 2 C.2.2.2.2.1 gX5_firstFault_X5_goesOn rfl rfl rfl hdS_X5_goesOn ⟨Nat.le_of_ble_eq_true rfl, Nat.le_of_ble_eq_true rfl⟩) [] rfl rfl rfl _ rfl (Nat.le_of_ble_eq_true rfl) ⟨Nat.zero_le _, Nat.zero_le _⟩ dX5_firstFault_15 ?_
        generalize hu15 : (F_X5_goesOn x3_2 u12) = u15 at hf ⊢
        refine z_if_ne (tgt := 23) C dX5_firstFault_18 (by decide) (fun c18 => ?_) (fun c18 => ?_)
        · rw [if_neg c18] at hf
          have b18 := c18
          rw [← hu15] at c18
          refine z_iinc (v := (x3_2 + (1 : Int32))) C [(0, .ref h3), (1, .int ti), (2, .int tn), (3, .int (x3_2 + (1 : Int32)))] dX5_firstFault_23 3 rfl (by rfl) (by decide) [1, 2, 3, 0] rfl ?_
          refine z_goto (tgt := 2) C dX5_firstFault_26 (by decide) ?_
          exact ih2 (j + 1) (x3_2 + (1 : Int32)) (by subst hu15 hu12; exact (by rw [e3]; exact nI_1 j)) (by subst hu15 hu12; exact (by have := z_jlt e3 (by omega) (z_tiN hTN (by omega)) c4; omega)) (by omega) hf
        · rw [if_pos c18] at hf
          have b18 := c18
          rw [← hu15] at c18
          refine z_iload_n C dX5_firstFault_21 rfl 3 rfl ?_
          exact z_iretR C hr hlk (by rw [hf]) dX5_firstFault_22
  exact L2 61 0 (0 : Int32) nI_0.symm (Nat.zero_le _) (by omega) hf
-- X5_failed
theorem i_X5_failed_5 : ∀ w ∈ u_ws RX5 TX5 7, w ∈ wsX5_failed := by decide +kernel
theorem m_X5_failed_1 : Cond.fieldLink RX5 46 "WishPins" "latestFault" "I" ∈ wsX5_failed := List.mem_of_getElem? (i := 1) rfl
def F_X5_failed (k : Int32) : Int32 × Int32 :=
  (((-10 : Int32) - k), k)
set_option maxHeartbeats 4000000 in
set_option maxRecDepth 100000 in
theorem c_X5_failed (l : Launch) (D : va_G) (cI cO : ClassId) (h5 : Nat) (ash : Nat) (tr : Int32) (ft : Int32) (h4 : Nat) (h2 : Nat) (h0 : Nat) (h1 : Nat) (k : Int32) : zW l yX5_failed wsX5_failed ({ frames := 0, cells := 0, slots := 0, locals := 0 } : Room) D cI cO [.ref h5, .int k] [(h5, .inr (5, [.ref h4, .ref h2, .ref h0, .ref h1, .ref ash, .int tr, .int ft]))] [(h5, .inr (5, [.ref h4, .ref h2, .ref h0, .ref h1, .ref ash, .int tr, .int ((F_X5_failed k).2)]))] (some (.int ((F_X5_failed k).1))) := by
  refine zW_of (nL := 2) (cc := cX5_failed) (ret := some .int) (lv := [(0, .ref h5), (1, .int k)]) (by decide +kernel) rfl (Nat.le_of_ble_eq_true rfl) rfl (fun p e s m args below meth c C hr hlk => ?_)
  have hf := F_X5_failed.eq_1 k
  refine z_aload_n C dX5_failed_0 rfl 0 rfl ?_
  refine z_iload_n C dX5_failed_1 rfl 1 rfl ?_
  refine z_put (T := TX5) (ty := .int) C [(h5, .inr (5, [.ref h4, .ref h2, .ref h0, .ref h1, .ref ash, .int tr, .int k]))] i_X5_failed_5 tyX5 tyX5_ok nmX5 0 rfl rfl 6 (by decide) m_X5_failed_1 rfl rfl (by decide +kernel) rfl rfl (Nat.le_of_ble_eq_true rfl) dX5_failed_2 rfl ?_
  refine z_bipush (v := (-10 : Int32)) C dX5_failed_5 (by decide) ?_
  refine z_iload_n C dX5_failed_7 rfl 1 rfl ?_
  refine z_isub C dX5_failed_8 ?_
  exact z_iretW C hr hlk (by rw [hf]) (by rw [hf]) dX5_failed_9
-- X5_hasWell
theorem i_X5_hasWell_5 : ∀ w ∈ u_ws RX5 TX5 7, w ∈ wsX5_hasWell := by decide +kernel
theorem m_X5_hasWell_1 : Cond.fieldLink RX5 12 "WishPins" "lying" "LWishPins$Well;" ∈ wsX5_hasWell := List.mem_of_getElem? (i := 1) rfl
theorem i_X5_hasWell_4 : ∀ w ∈ u_ws RX4 TX4 7, w ∈ wsX5_hasWell := by decide +kernel
theorem m_X5_hasWell_2 : Cond.fieldLink RX5 79 "WishPins$Well" "pins" "I" ∈ wsX5_hasWell := List.mem_of_getElem? (i := 2) rfl
def F_X5_hasWell (pn : Int32) : Int32 :=
  (if pn ≤ 0 then (0 : Int32) else (1 : Int32))
set_option maxHeartbeats 4000000 in
set_option maxRecDepth 100000 in
theorem c_X5_hasWell (l : Launch) (D : va_G) (cI cO : ClassId) (h5 : Nat) (ash : Nat) (tr : Int32) (ft : Int32) (h4 : Nat) (a1 : Nat) (a2 : Nat) (a3 : Nat) (pn : Int32) (sl : Int32) (dr : Int32) (nw : Int32) (h2 : Nat) (h0 : Nat) (h1 : Nat) : zR l yX5_hasWell wsX5_hasWell ({ frames := 0, cells := 0, slots := 0, locals := 0 } : Room) D cI cO [.ref h5] [(h5, .inr (5, [.ref h4, .ref h2, .ref h0, .ref h1, .ref ash, .int tr, .int ft])), (h4, .inr (4, [.ref a1, .ref a2, .ref a3, .int pn, .int sl, .int dr, .int nw]))] (some (.int (F_X5_hasWell pn))) := by
  refine zR_of (nL := 1) (cc := cX5_hasWell) (ret := some .boolean) (lv := [(0, .ref h5)]) (by decide +kernel) rfl (Nat.le_of_ble_eq_true rfl) rfl (fun p e s m args below meth c C hr hlk => ?_)
  have hf := F_X5_hasWell.eq_1 pn
  refine z_aload_n C dX5_hasWell_0 rfl 0 rfl ?_
  refine z_get (T := TX5) (v := .ref h4) C i_X5_hasWell_5 0 rfl rfl 0 (by decide) m_X5_hasWell_1 rfl rfl dX5_hasWell_1 ?_
  refine z_get (T := TX4) (v := .int pn) C i_X5_hasWell_4 1 rfl rfl 3 (by decide) m_X5_hasWell_2 rfl rfl dX5_hasWell_4 ?_
  refine z_if_le (tgt := 14) C dX5_hasWell_7 (by decide) (fun c7 => ?_) (fun c7 => ?_)
  · rw [if_pos c7] at hf
    refine z_iconst (v := (0 : Int32)) C dX5_hasWell_14 (by decide) ?_
    exact z_zretR C hr hlk rfl (by rw [hf]) dX5_hasWell_15
  · rw [if_neg c7] at hf
    refine z_iconst (v := (1 : Int32)) C dX5_hasWell_10 (by decide) ?_
    refine z_goto (tgt := 15) C dX5_hasWell_11 (by decide) ?_
    exact z_zretR C hr hlk rfl (by rw [hf]) dX5_hasWell_15
-- X5_beginBody
theorem i_X5_beginBody_5 : ∀ w ∈ u_ws RX5 TX5 7, w ∈ wsX5_beginBody := by decide +kernel
theorem m_X5_beginBody_1 : Cond.fieldLink RX5 225 "WishPins" "traced" "I" ∈ wsX5_beginBody := List.mem_of_getElem? (i := 1) rfl
def F_X5_beginBody (tr : Int32) (k : Int32) : Int32 :=
  (((31 : Int32) * tr) + k)
set_option maxHeartbeats 4000000 in
set_option maxRecDepth 100000 in
theorem c_X5_beginBody (l : Launch) (D : va_G) (cI cO : ClassId) (h5 : Nat) (ash : Nat) (tr : Int32) (ft : Int32) (h4 : Nat) (h2 : Nat) (h0 : Nat) (h1 : Nat) (k : Int32) : zW l yX5_beginBody wsX5_beginBody ({ frames := 0, cells := 0, slots := 0, locals := 0 } : Room) D cI cO [.ref h5, .int k] [(h5, .inr (5, [.ref h4, .ref h2, .ref h0, .ref h1, .ref ash, .int tr, .int ft]))] [(h5, .inr (5, [.ref h4, .ref h2, .ref h0, .ref h1, .ref ash, .int (F_X5_beginBody tr k), .int ft]))] none := by
  refine zW_of (nL := 2) (cc := cX5_beginBody) (ret := none) (lv := [(0, .ref h5), (1, .int k)]) (by decide +kernel) rfl (Nat.le_of_ble_eq_true rfl) rfl (fun p e s m args below meth c C hr hlk => ?_)
  have hf := F_X5_beginBody.eq_1 tr k
  refine z_aload_n C dX5_beginBody_0 rfl 0 rfl ?_
  refine z_bipush (v := (31 : Int32)) C dX5_beginBody_1 (by decide) ?_
  refine z_aload_n C dX5_beginBody_3 rfl 0 rfl ?_
  refine z_get (T := TX5) (v := .int tr) C i_X5_beginBody_5 0 rfl rfl 5 (by decide) m_X5_beginBody_1 rfl rfl dX5_beginBody_4 ?_
  refine z_imul C dX5_beginBody_7 ?_
  refine z_iload_n C dX5_beginBody_8 rfl 1 rfl ?_
  refine z_iadd C dX5_beginBody_9 ?_
  refine z_put (T := TX5) (ty := .int) C [(h5, .inr (5, [.ref h4, .ref h2, .ref h0, .ref h1, .ref ash, .int (((31 : Int32) * tr) + k), .int ft]))] i_X5_beginBody_5 tyX5 tyX5_ok nmX5 0 rfl rfl 5 (by decide) m_X5_beginBody_1 rfl rfl (by decide +kernel) rfl rfl (Nat.le_of_ble_eq_true rfl) dX5_beginBody_10 rfl ?_
  exact z_vretW C hr hlk (by rw [hf]) dX5_beginBody_13
-- X5_tellPlain
def F_X5_tellPlain (tr : Int32) (b : Int32) : Int32 × Int32 :=
  (b, (F_X5_beginBody tr (1 : Int32)))
set_option maxHeartbeats 4000000 in
set_option maxRecDepth 100000 in
theorem c_X5_tellPlain (l : Launch) (D : va_G) (cI cO : ClassId) (h5 : Nat) (ash : Nat) (tr : Int32) (ft : Int32) (h4 : Nat) (h2 : Nat) (h0 : Nat) (h1 : Nat) (b : Int32) : zW l yX5_tellPlain wsX5_tellPlain ({ frames := 1, cells := 0, slots := 0, locals := 21 } : Room) D cI cO [.ref h5, .int b] [(h5, .inr (5, [.ref h4, .ref h2, .ref h0, .ref h1, .ref ash, .int tr, .int ft]))] [(h5, .inr (5, [.ref h4, .ref h2, .ref h0, .ref h1, .ref ash, .int ((F_X5_tellPlain tr b).2), .int ft]))] (some (.int ((F_X5_tellPlain tr b).1))) := by
  refine zW_of (nL := 2) (cc := cX5_tellPlain) (ret := some .int) (lv := [(0, .ref h5), (1, .int b)]) (by decide +kernel) rfl (Nat.le_of_ble_eq_true rfl) rfl (fun p e s m args below meth c C hr hlk => ?_)
  have hf := F_X5_tellPlain.eq_1 tr b
  refine z_aload_n C dX5_tellPlain_0 rfl 0 rfl ?_
  refine z_iconst (v := (1 : Int32)) C dX5_tellPlain_1 (by decide) ?_
  refine z_cVW (As := [.int (1 : Int32)]) C (c_X5_beginBody l D cI cO h5 ash tr ft h4 h2 h0 h1 (1 : Int32)) (cwV 1 C.2.2.2.2.1 gX5_tellPlain_X5_beginBody rfl rfl rfl hdV_X5_beginBody ⟨Nat.le_of_ble_eq_true rfl, Nat.le_of_ble_eq_true rfl⟩) [(h5, .inr (5, [.ref h4, .ref h2, .ref h0, .ref h1, .ref ash, .int (F_X5_beginBody tr (1 : Int32)), .int ft]))] [0] rfl rfl (Eq.refl [h5]) rfl 0 rfl rfl rfl _ rfl (Nat.le_of_ble_eq_true rfl) ⟨Nat.zero_le _, Nat.zero_le _⟩ dX5_tellPlain_2 ?_
  generalize hu2 : (F_X5_beginBody tr (1 : Int32)) = u2 at hf ⊢
  refine z_iload_n C dX5_tellPlain_5 rfl 1 rfl ?_
  exact z_iretW C hr hlk (by rw [hf]) (by rw [hf]) dX5_tellPlain_6
-- X5_tellCrook
def F_X5_tellCrook (tr : Int32) (b : Int32) : Int32 × Int32 :=
  (((F_X5_tellPlain (F_X5_beginBody tr (2 : Int32)) b).1 + (100 : Int32)), (F_X5_tellPlain (F_X5_beginBody tr (2 : Int32)) b).2)
set_option maxHeartbeats 4000000 in
set_option maxRecDepth 100000 in
theorem c_X5_tellCrook (l : Launch) (D : va_G) (cI cO : ClassId) (h5 : Nat) (ash : Nat) (tr : Int32) (ft : Int32) (h4 : Nat) (h2 : Nat) (h0 : Nat) (h1 : Nat) (b : Int32) : zW l yX5_tellCrook wsX5_tellCrook ({ frames := 2, cells := 0, slots := 0, locals := 42 } : Room) D cI cO [.ref h5, .int b] [(h5, .inr (5, [.ref h4, .ref h2, .ref h0, .ref h1, .ref ash, .int tr, .int ft]))] [(h5, .inr (5, [.ref h4, .ref h2, .ref h0, .ref h1, .ref ash, .int ((F_X5_tellCrook tr b).2), .int ft]))] (some (.int ((F_X5_tellCrook tr b).1))) := by
  refine zW_of (nL := 2) (cc := cX5_tellCrook) (ret := some .int) (lv := [(0, .ref h5), (1, .int b)]) (by decide +kernel) rfl (Nat.le_of_ble_eq_true rfl) rfl (fun p e s m args below meth c C hr hlk => ?_)
  have hf := F_X5_tellCrook.eq_1 tr b
  refine z_aload_n C dX5_tellCrook_0 rfl 0 rfl ?_
  refine z_iconst (v := (2 : Int32)) C dX5_tellCrook_1 (by decide) ?_
  refine z_cVW (As := [.int (2 : Int32)]) C (c_X5_beginBody l D cI cO h5 ash tr ft h4 h2 h0 h1 (2 : Int32)) (cwV 1 C.2.2.2.2.1 gX5_tellCrook_X5_beginBody rfl rfl rfl hdV_X5_beginBody ⟨Nat.le_of_ble_eq_true rfl, Nat.le_of_ble_eq_true rfl⟩) [(h5, .inr (5, [.ref h4, .ref h2, .ref h0, .ref h1, .ref ash, .int (F_X5_beginBody tr (2 : Int32)), .int ft]))] [0] rfl rfl (Eq.refl [h5]) rfl 0 rfl rfl rfl _ rfl (Nat.le_of_ble_eq_true rfl) ⟨Nat.zero_le _, Nat.zero_le _⟩ dX5_tellCrook_2 ?_
  generalize hu2 : (F_X5_beginBody tr (2 : Int32)) = u2 at hf ⊢
  refine z_aload_n C dX5_tellCrook_5 rfl 0 rfl ?_
  refine z_iload_n C dX5_tellCrook_6 rfl 1 rfl ?_
  refine z_cVW (As := [.int b]) C (c_X5_tellPlain l D cI cO h5 ash u2 ft h4 h2 h0 h1 b) (cwV 1 C.2.2.2.2.1 gX5_tellCrook_X5_tellPlain rfl rfl rfl hdV_X5_tellPlain ⟨Nat.le_of_ble_eq_true rfl, Nat.le_of_ble_eq_true rfl⟩) [(h5, .inr (5, [.ref h4, .ref h2, .ref h0, .ref h1, .ref ash, .int ((F_X5_tellPlain u2 b).2), .int ft]))] [0] rfl rfl (Eq.refl [h5]) rfl 0 rfl rfl rfl _ rfl (Nat.le_of_ble_eq_true rfl) ⟨Nat.zero_le _, Nat.zero_le _⟩ dX5_tellCrook_7 ?_
  generalize hu7 : (F_X5_tellPlain u2 b) = u7 at hf ⊢
  refine z_bipush (v := (100 : Int32)) C dX5_tellCrook_10 (by decide) ?_
  refine z_iadd C dX5_tellCrook_12 ?_
  exact z_iretW C hr hlk (by rw [hf]) (by rw [hf]) dX5_tellCrook_13
-- X5_tellDouble
def F_X5_tellDouble (tr : Int32) (b : Int32) : Int32 × Int32 :=
  (((F_X5_tellCrook (F_X5_beginBody tr (3 : Int32)) b).1 + (F_X5_tellPlain (F_X5_tellCrook (F_X5_beginBody tr (3 : Int32)) b).2 b).1), (F_X5_tellPlain (F_X5_tellCrook (F_X5_beginBody tr (3 : Int32)) b).2 b).2)
set_option maxHeartbeats 4000000 in
set_option maxRecDepth 100000 in
theorem c_X5_tellDouble (l : Launch) (D : va_G) (cI cO : ClassId) (h5 : Nat) (ash : Nat) (tr : Int32) (ft : Int32) (h4 : Nat) (h2 : Nat) (h0 : Nat) (h1 : Nat) (b : Int32) : zW l yX5_tellDouble wsX5_tellDouble ({ frames := 3, cells := 0, slots := 0, locals := 63 } : Room) D cI cO [.ref h5, .int b] [(h5, .inr (5, [.ref h4, .ref h2, .ref h0, .ref h1, .ref ash, .int tr, .int ft]))] [(h5, .inr (5, [.ref h4, .ref h2, .ref h0, .ref h1, .ref ash, .int ((F_X5_tellDouble tr b).2), .int ft]))] (some (.int ((F_X5_tellDouble tr b).1))) := by
  refine zW_of (nL := 3) (cc := cX5_tellDouble) (ret := some .int) (lv := [(0, .ref h5), (1, .int b)]) (by decide +kernel) rfl (Nat.le_of_ble_eq_true rfl) rfl (fun p e s m args below meth c C hr hlk => ?_)
  have hf := F_X5_tellDouble.eq_1 tr b
  refine z_aload_n C dX5_tellDouble_0 rfl 0 rfl ?_
  refine z_iconst (v := (3 : Int32)) C dX5_tellDouble_1 (by decide) ?_
  refine z_cVW (As := [.int (3 : Int32)]) C (c_X5_beginBody l D cI cO h5 ash tr ft h4 h2 h0 h1 (3 : Int32)) (cwV 1 C.2.2.2.2.1 gX5_tellDouble_X5_beginBody rfl rfl rfl hdV_X5_beginBody ⟨Nat.le_of_ble_eq_true rfl, Nat.le_of_ble_eq_true rfl⟩) [(h5, .inr (5, [.ref h4, .ref h2, .ref h0, .ref h1, .ref ash, .int (F_X5_beginBody tr (3 : Int32)), .int ft]))] [0] rfl rfl (Eq.refl [h5]) rfl 0 rfl rfl rfl _ rfl (Nat.le_of_ble_eq_true rfl) ⟨Nat.zero_le _, Nat.zero_le _⟩ dX5_tellDouble_2 ?_
  generalize hu2 : (F_X5_beginBody tr (3 : Int32)) = u2 at hf ⊢
  refine z_aload_n C dX5_tellDouble_5 rfl 0 rfl ?_
  refine z_iload_n C dX5_tellDouble_6 rfl 1 rfl ?_
  refine z_cVW (As := [.int b]) C (c_X5_tellCrook l D cI cO h5 ash u2 ft h4 h2 h0 h1 b) (cwV 1 C.2.2.2.2.1 gX5_tellDouble_X5_tellCrook rfl rfl rfl hdV_X5_tellCrook ⟨Nat.le_of_ble_eq_true rfl, Nat.le_of_ble_eq_true rfl⟩) [(h5, .inr (5, [.ref h4, .ref h2, .ref h0, .ref h1, .ref ash, .int ((F_X5_tellCrook u2 b).2), .int ft]))] [0] rfl rfl (Eq.refl [h5]) rfl 0 rfl rfl rfl _ rfl (Nat.le_of_ble_eq_true rfl) ⟨Nat.zero_le _, Nat.zero_le _⟩ dX5_tellDouble_7 ?_
  generalize hu7 : (F_X5_tellCrook u2 b) = u7 at hf ⊢
  refine z_istore_n C [(0, .ref h5), (1, .int b), (2, .int u7.1)] dX5_tellDouble_10 rfl (by decide) [1, 2, 0] rfl ?_
  refine z_iload_n C dX5_tellDouble_11 rfl 2 rfl ?_
  refine z_aload_n C dX5_tellDouble_12 rfl 0 rfl ?_
  refine z_iload_n C dX5_tellDouble_13 rfl 1 rfl ?_
  refine z_cVW (As := [.int b]) C (c_X5_tellPlain l D cI cO h5 ash u7.2 ft h4 h2 h0 h1 b) (cwV 1 C.2.2.2.2.1 gX5_tellDouble_X5_tellPlain rfl rfl rfl hdV_X5_tellPlain ⟨Nat.le_of_ble_eq_true rfl, Nat.le_of_ble_eq_true rfl⟩) [(h5, .inr (5, [.ref h4, .ref h2, .ref h0, .ref h1, .ref ash, .int ((F_X5_tellPlain u7.2 b).2), .int ft]))] [0] rfl rfl (Eq.refl [h5]) rfl 0 rfl rfl rfl _ rfl (Nat.le_of_ble_eq_true rfl) ⟨Nat.zero_le _, Nat.zero_le _⟩ dX5_tellDouble_14 ?_
  generalize hu14 : (F_X5_tellPlain u7.2 b) = u14 at hf ⊢
  refine z_iadd C dX5_tellDouble_17 ?_
  exact z_iretW C hr hlk (by rw [hf]) (by rw [hf]) dX5_tellDouble_18
