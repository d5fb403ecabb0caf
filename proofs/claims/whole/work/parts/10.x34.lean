theorem zl_lt {x k : Int32} {z : Int} (hz : k.toInt = z) : x < k ↔ x.toInt < z := by rw [Int32.lt_iff_toInt_lt, hz]
theorem zl_le {x k : Int32} {z : Int} (hz : k.toInt = z) : x ≤ k ↔ x.toInt ≤ z := by rw [Int32.le_iff_toInt_le, hz]
theorem zl_gt {x k : Int32} {z : Int} (hz : k.toInt = z) : k < x ↔ z < x.toInt := by rw [Int32.lt_iff_toInt_lt, hz]
theorem zl_ge {x k : Int32} {z : Int} (hz : k.toInt = z) : k ≤ x ↔ z ≤ x.toInt := by rw [Int32.le_iff_toInt_le, hz]
theorem zl_eq {x k : Int32} {z : Int} (hz : k.toInt = z) : x = k ↔ x.toInt = z := by rw [← hz, Int32.toInt_inj]
-- X5_turnOf
def F_X5_turnOf (k : Int32) (b : Int32) : Int32 :=
  (if k = 0 then b else (if k = (1 : Int32) then (b + (1 : Int32)) else ((2 : Int32) * (b + (1 : Int32)))))
set_option maxHeartbeats 4000000 in
set_option maxRecDepth 100000 in
theorem c_X5_turnOf (l : Launch) (D : va_G) (cI cO : ClassId) (k : Int32) (b : Int32) : zR l yX5_turnOf wsX5_turnOf ({ frames := 0, cells := 0, slots := 0, locals := 0 } : Room) D cI cO [.int k, .int b] [] (some (.int (F_X5_turnOf k b))) := by
  refine zR_of (nL := 2) (cc := cX5_turnOf) (ret := some .int) (lv := [(0, .int k), (1, .int b)]) (by decide +kernel) rfl (Nat.le_of_ble_eq_true rfl) rfl (fun p e s m args below meth c C hr hlk => ?_)
  have hf := F_X5_turnOf.eq_1 k b
  refine z_iload_n C dX5_turnOf_0 rfl 0 rfl ?_
  refine z_if_ne (tgt := 6) C dX5_turnOf_1 (by decide) (fun c1 => ?_) (fun c1 => ?_)
  · rw [if_neg c1] at hf
    refine z_iload_n C dX5_turnOf_6 rfl 0 rfl ?_
    refine z_iconst (v := (1 : Int32)) C dX5_turnOf_7 (by decide) ?_
    refine z_icmp_ne (tgt := 17) C dX5_turnOf_8 (by decide) (fun c8 => ?_) (fun c8 => ?_)
    · rw [if_neg c8] at hf
      refine z_iconst (v := (2 : Int32)) C dX5_turnOf_17 (by decide) ?_
      refine z_iload_n C dX5_turnOf_18 rfl 1 rfl ?_
      refine z_iconst (v := (1 : Int32)) C dX5_turnOf_19 (by decide) ?_
      refine z_iadd C dX5_turnOf_20 ?_
      refine z_imul C dX5_turnOf_21 ?_
      exact z_iretR C hr hlk (by rw [hf]) dX5_turnOf_22
    · rw [if_pos c8] at hf
      refine z_iload_n C dX5_turnOf_11 rfl 1 rfl ?_
      refine z_iconst (v := (1 : Int32)) C dX5_turnOf_12 (by decide) ?_
      refine z_iadd C dX5_turnOf_13 ?_
      refine z_goto (tgt := 22) C dX5_turnOf_14 (by decide) ?_
      exact z_iretR C hr hlk (by rw [hf]) dX5_turnOf_22
  · rw [if_pos c1] at hf
    refine z_iload_n C dX5_turnOf_4 rfl 1 rfl ?_
    exact z_iretR C hr hlk (by rw [hf]) dX5_turnOf_5
-- X5_wishOf
def F_X5_wishOf (a : Int32) (t : Int32) (b : Int32) (y : Int32) : Int32 :=
  (((a * t) + (b * y)) - ((a * t) + (b * y)) / (6 : Int32) * (6 : Int32))
set_option maxHeartbeats 4000000 in
set_option maxRecDepth 100000 in
theorem c_X5_wishOf (l : Launch) (D : va_G) (cI cO : ClassId) (a : Int32) (t : Int32) (b : Int32) (y : Int32) : zR l yX5_wishOf wsX5_wishOf ({ frames := 0, cells := 0, slots := 0, locals := 0 } : Room) D cI cO [.int a, .int t, .int b, .int y] [] (some (.int (F_X5_wishOf a t b y))) := by
  refine zR_of (nL := 4) (cc := cX5_wishOf) (ret := some .int) (lv := [(0, .int a), (1, .int t), (2, .int b), (3, .int y)]) (by decide +kernel) rfl (Nat.le_of_ble_eq_true rfl) rfl (fun p e s m args below meth c C hr hlk => ?_)
  have hf := F_X5_wishOf.eq_1 a t b y
  refine z_iload_n C dX5_wishOf_0 rfl 0 rfl ?_
  refine z_iload_n C dX5_wishOf_1 rfl 1 rfl ?_
  refine z_imul C dX5_wishOf_2 ?_
  refine z_iload_n C dX5_wishOf_3 rfl 2 rfl ?_
  refine z_iload_n C dX5_wishOf_4 rfl 3 rfl ?_
  refine z_imul C dX5_wishOf_5 ?_
  refine z_iadd C dX5_wishOf_6 ?_
  refine z_bipush (v := (6 : Int32)) C dX5_wishOf_7 (by decide) ?_
  refine z_irem C dX5_wishOf_9 (by decide) ?_
  exact z_iretR C hr hlk (by rw [hf]) dX5_wishOf_10
-- X4_isPin
theorem i_X4_isPin_4 : ∀ w ∈ u_ws RX4 TX4 7, w ∈ wsX4_isPin := by decide +kernel
theorem m_X4_isPin_1 : Cond.fieldLink RX4 34 "WishPins$Well" "pins" "I" ∈ wsX4_isPin := List.mem_of_getElem? (i := 1) rfl
def F_X4_isPin (pn : Int32) (k : Int32) : Int32 :=
  (if k < 0 then (0 : Int32) else (if pn ≤ k then (0 : Int32) else (if (9 : Int32) ≤ k then (0 : Int32) else (1 : Int32))))
set_option maxHeartbeats 4000000 in
set_option maxRecDepth 100000 in
theorem c_X4_isPin (l : Launch) (D : va_G) (cI cO : ClassId) (h4 : Nat) (a1 : Nat) (a2 : Nat) (a3 : Nat) (pn : Int32) (sl : Int32) (dr : Int32) (nw : Int32) (k : Int32) : zR l yX4_isPin wsX4_isPin ({ frames := 0, cells := 0, slots := 0, locals := 0 } : Room) D cI cO [.ref h4, .int k] [(h4, .inr (4, [.ref a1, .ref a2, .ref a3, .int pn, .int sl, .int dr, .int nw]))] (some (.int (F_X4_isPin pn k))) := by
  refine zR_of (nL := 2) (cc := cX4_isPin) (ret := some .boolean) (lv := [(0, .ref h4), (1, .int k)]) (by decide +kernel) rfl (Nat.le_of_ble_eq_true rfl) rfl (fun p e s m args below meth c C hr hlk => ?_)
  have hf := F_X4_isPin.eq_1 pn k
  refine z_iload_n C dX4_isPin_0 rfl 1 rfl ?_
  refine z_if_lt (tgt := 22) C dX4_isPin_1 (by decide) (fun c1 => ?_) (fun c1 => ?_)
  · rw [if_pos c1] at hf
    refine z_iconst (v := (0 : Int32)) C dX4_isPin_22 (by decide) ?_
    exact z_zretR C hr hlk rfl (by rw [hf]) dX4_isPin_23
  · rw [if_neg c1] at hf
    refine z_iload_n C dX4_isPin_4 rfl 1 rfl ?_
    refine z_aload_n C dX4_isPin_5 rfl 0 rfl ?_
    refine z_get (T := TX4) (v := .int pn) C i_X4_isPin_4 0 rfl rfl 3 (by decide) m_X4_isPin_1 rfl rfl dX4_isPin_6 ?_
    refine z_icmp_ge (tgt := 22) C dX4_isPin_9 (by decide) (fun c9 => ?_) (fun c9 => ?_)
    · rw [if_pos c9] at hf
      refine z_iconst (v := (0 : Int32)) C dX4_isPin_22 (by decide) ?_
      exact z_zretR C hr hlk rfl (by rw [hf]) dX4_isPin_23
    · rw [if_neg c9] at hf
      refine z_iload_n C dX4_isPin_12 rfl 1 rfl ?_
      refine z_bipush (v := (9 : Int32)) C dX4_isPin_13 (by decide) ?_
      refine z_icmp_ge (tgt := 22) C dX4_isPin_15 (by decide) (fun c15 => ?_) (fun c15 => ?_)
      · rw [if_pos c15] at hf
        refine z_iconst (v := (0 : Int32)) C dX4_isPin_22 (by decide) ?_
        exact z_zretR C hr hlk rfl (by rw [hf]) dX4_isPin_23
      · rw [if_neg c15] at hf
        refine z_iconst (v := (1 : Int32)) C dX4_isPin_18 (by decide) ?_
        refine z_goto (tgt := 23) C dX4_isPin_19 (by decide) ?_
        exact z_zretR C hr hlk rfl (by rw [hf]) dX4_isPin_23
theorem isPin_in {pn k : Int32} (h : ¬ F_X4_isPin pn k = 0) : ¬ k < 0 ∧ k < pn ∧ k < 9 := by
  rw [F_X4_isPin] at h
  by_cases c1 : k < 0
  · rw [if_pos c1] at h; exact absurd rfl h
  · rw [if_neg c1] at h
    by_cases c2 : pn ≤ k
    · rw [if_pos c2] at h; exact absurd rfl h
    · rw [if_neg c2] at h
      by_cases c3 : (9 : Int32) ≤ k
      · rw [if_pos c3] at h; exact absurd rfl h
      · exact ⟨c1, Int32.not_le.mp c2, Int32.not_le.mp c3⟩
theorem isPin_ix {pn k : Int32} (h : ¬ F_X4_isPin pn k = 0) : vp_in k 9 := z_in (N := 9) (by decide) (isPin_in h).1 (isPin_in h).2.2
-- X4_kindAt
theorem i_X4_kindAt_4 : ∀ w ∈ u_ws RX4 TX4 7, w ∈ wsX4_kindAt := by decide +kernel
theorem m_X4_kindAt_1 : Cond.fieldLink RX4 9 "WishPins$Well" "kind" "[I" ∈ wsX4_kindAt := List.mem_of_getElem? (i := 1) rfl
def F_X4_kindAt (pn : Int32) (kd : Nat → Int32) (k : Int32) : Int32 :=
  (if (F_X4_isPin pn k) = 0 then (-9 : Int32) else (kd k.toNatClampNeg))
set_option maxHeartbeats 4000000 in
set_option maxRecDepth 100000 in
theorem c_X4_kindAt (l : Launch) (D : va_G) (cI cO : ClassId) (h4 : Nat) (a1 : Nat) (a2 : Nat) (a3 : Nat) (pn : Int32) (sl : Int32) (dr : Int32) (nw : Int32) (kd : Nat → Int32) (k : Int32) : zR l yX4_kindAt wsX4_kindAt ({ frames := 1, cells := 0, slots := 0, locals := 21 } : Room) D cI cO [.ref h4, .int k] [(h4, .inr (4, [.ref a1, .ref a2, .ref a3, .int pn, .int sl, .int dr, .int nw])), (a1, .inl (cI, 9, .inl kd))] (some (.int (F_X4_kindAt pn kd k))) := by
  refine zR_of (nL := 2) (cc := cX4_kindAt) (ret := some .int) (lv := [(0, .ref h4), (1, .int k)]) (by decide +kernel) rfl (Nat.le_of_ble_eq_true rfl) rfl (fun p e s m args below meth c C hr hlk => ?_)
  have hf := F_X4_kindAt.eq_1 pn kd k
  refine z_aload_n C dX4_kindAt_0 rfl 0 rfl ?_
  refine z_iload_n C dX4_kindAt_1 rfl 1 rfl ?_
  refine z_cVR (As := [.int k]) C (c_X4_isPin l D cI cO h4 a1 a2 a3 pn sl dr nw k) (cwV 1 C.2.2.2.2.1 gX4_kindAt_X4_isPin rfl rfl rfl hdV_X4_isPin ⟨Nat.le_of_ble_eq_true rfl, Nat.le_of_ble_eq_true rfl⟩) [0] rfl rfl 0 rfl rfl rfl _ rfl (Nat.le_of_ble_eq_true rfl) ⟨Nat.zero_le _, Nat.zero_le _⟩ dX4_kindAt_2 ?_
  generalize hu2 : (F_X4_isPin pn k) = u2 at hf ⊢
  refine z_if_eq (tgt := 17) C dX4_kindAt_5 (by decide) (fun c5 => ?_) (fun c5 => ?_)
  · rw [if_pos c5] at hf
    have b5 := c5
    rw [← hu2] at c5
    refine z_bipush (v := (-9 : Int32)) C dX4_kindAt_17 (by decide) ?_
    exact z_iretR C hr hlk (by rw [hf]) dX4_kindAt_19
  · rw [if_neg c5] at hf
    have b5 := c5
    rw [← hu2] at c5
    refine z_aload_n C dX4_kindAt_8 rfl 0 rfl ?_
    refine z_get (T := TX4) (v := .ref a1) C i_X4_kindAt_4 0 rfl rfl 0 (by decide) m_X4_kindAt_1 rfl rfl dX4_kindAt_9 ?_
    refine z_iload_n C dX4_kindAt_12 rfl 1 rfl ?_
    refine z_ald C 1 rfl (by subst hu2; exact (isPin_ix c5)) dX4_kindAt_13 ?_
    refine z_goto (tgt := 19) C dX4_kindAt_14 (by decide) ?_
    exact z_iretR C hr hlk (by rw [hf]) dX4_kindAt_19
-- X4_bendAt
theorem i_X4_bendAt_4 : ∀ w ∈ u_ws RX4 TX4 7, w ∈ wsX4_bendAt := by decide +kernel
theorem m_X4_bendAt_1 : Cond.fieldLink RX4 15 "WishPins$Well" "bend" "[I" ∈ wsX4_bendAt := List.mem_of_getElem? (i := 1) rfl
def F_X4_bendAt (pn : Int32) (bd : Nat → Int32) (k : Int32) : Int32 :=
  (if (F_X4_isPin pn k) = 0 then (-9 : Int32) else (bd k.toNatClampNeg))
set_option maxHeartbeats 4000000 in
set_option maxRecDepth 100000 in
theorem c_X4_bendAt (l : Launch) (D : va_G) (cI cO : ClassId) (h4 : Nat) (a1 : Nat) (a2 : Nat) (a3 : Nat) (pn : Int32) (sl : Int32) (dr : Int32) (nw : Int32) (bd : Nat → Int32) (k : Int32) : zR l yX4_bendAt wsX4_bendAt ({ frames := 1, cells := 0, slots := 0, locals := 21 } : Room) D cI cO [.ref h4, .int k] [(h4, .inr (4, [.ref a1, .ref a2, .ref a3, .int pn, .int sl, .int dr, .int nw])), (a2, .inl (cI, 9, .inl bd))] (some (.int (F_X4_bendAt pn bd k))) := by
  refine zR_of (nL := 2) (cc := cX4_bendAt) (ret := some .int) (lv := [(0, .ref h4), (1, .int k)]) (by decide +kernel) rfl (Nat.le_of_ble_eq_true rfl) rfl (fun p e s m args below meth c C hr hlk => ?_)
  have hf := F_X4_bendAt.eq_1 pn bd k
  refine z_aload_n C dX4_bendAt_0 rfl 0 rfl ?_
  refine z_iload_n C dX4_bendAt_1 rfl 1 rfl ?_
  refine z_cVR (As := [.int k]) C (c_X4_isPin l D cI cO h4 a1 a2 a3 pn sl dr nw k) (cwV 1 C.2.2.2.2.1 gX4_bendAt_X4_isPin rfl rfl rfl hdV_X4_isPin ⟨Nat.le_of_ble_eq_true rfl, Nat.le_of_ble_eq_true rfl⟩) [0] rfl rfl 0 rfl rfl rfl _ rfl (Nat.le_of_ble_eq_true rfl) ⟨Nat.zero_le _, Nat.zero_le _⟩ dX4_bendAt_2 ?_
  generalize hu2 : (F_X4_isPin pn k) = u2 at hf ⊢
  refine z_if_eq (tgt := 17) C dX4_bendAt_5 (by decide) (fun c5 => ?_) (fun c5 => ?_)
  · rw [if_pos c5] at hf
    have b5 := c5
    rw [← hu2] at c5
    refine z_bipush (v := (-9 : Int32)) C dX4_bendAt_17 (by decide) ?_
    exact z_iretR C hr hlk (by rw [hf]) dX4_bendAt_19
  · rw [if_neg c5] at hf
    have b5 := c5
    rw [← hu2] at c5
    refine z_aload_n C dX4_bendAt_8 rfl 0 rfl ?_
    refine z_get (T := TX4) (v := .ref a2) C i_X4_bendAt_4 0 rfl rfl 1 (by decide) m_X4_bendAt_1 rfl rfl dX4_bendAt_9 ?_
    refine z_iload_n C dX4_bendAt_12 rfl 1 rfl ?_
    refine z_ald C 1 rfl (by subst hu2; exact (isPin_ix c5)) dX4_bendAt_13 ?_
    refine z_goto (tgt := 19) C dX4_bendAt_14 (by decide) ?_
    exact z_iretR C hr hlk (by rw [hf]) dX4_bendAt_19
-- X4_yearAt
theorem i_X4_yearAt_4 : ∀ w ∈ u_ws RX4 TX4 7, w ∈ wsX4_yearAt := by decide +kernel
theorem m_X4_yearAt_1 : Cond.fieldLink RX4 18 "WishPins$Well" "year" "[I" ∈ wsX4_yearAt := List.mem_of_getElem? (i := 1) rfl
def F_X4_yearAt (pn : Int32) (yr : Nat → Int32) (k : Int32) : Int32 :=
  (if (F_X4_isPin pn k) = 0 then (-9 : Int32) else (yr k.toNatClampNeg))
set_option maxHeartbeats 4000000 in
set_option maxRecDepth 100000 in
theorem c_X4_yearAt (l : Launch) (D : va_G) (cI cO : ClassId) (h4 : Nat) (a1 : Nat) (a2 : Nat) (a3 : Nat) (pn : Int32) (sl : Int32) (dr : Int32) (nw : Int32) (yr : Nat → Int32) (k : Int32) : zR l yX4_yearAt wsX4_yearAt ({ frames := 1, cells := 0, slots := 0, locals := 21 } : Room) D cI cO [.ref h4, .int k] [(h4, .inr (4, [.ref a1, .ref a2, .ref a3, .int pn, .int sl, .int dr, .int nw])), (a3, .inl (cI, 9, .inl yr))] (some (.int (F_X4_yearAt pn yr k))) := by
  refine zR_of (nL := 2) (cc := cX4_yearAt) (ret := some .int) (lv := [(0, .ref h4), (1, .int k)]) (by decide +kernel) rfl (Nat.le_of_ble_eq_true rfl) rfl (fun p e s m args below meth c C hr hlk => ?_)
  have hf := F_X4_yearAt.eq_1 pn yr k
  refine z_aload_n C dX4_yearAt_0 rfl 0 rfl ?_
  refine z_iload_n C dX4_yearAt_1 rfl 1 rfl ?_
  refine z_cVR (As := [.int k]) C (c_X4_isPin l D cI cO h4 a1 a2 a3 pn sl dr nw k) (cwV 1 C.2.2.2.2.1 gX4_yearAt_X4_isPin rfl rfl rfl hdV_X4_isPin ⟨Nat.le_of_ble_eq_true rfl, Nat.le_of_ble_eq_true rfl⟩) [0] rfl rfl 0 rfl rfl rfl _ rfl (Nat.le_of_ble_eq_true rfl) ⟨Nat.zero_le _, Nat.zero_le _⟩ dX4_yearAt_2 ?_
  generalize hu2 : (F_X4_isPin pn k) = u2 at hf ⊢
  refine z_if_eq (tgt := 17) C dX4_yearAt_5 (by decide) (fun c5 => ?_) (fun c5 => ?_)
  · rw [if_pos c5] at hf
    have b5 := c5
    rw [← hu2] at c5
    refine z_bipush (v := (-9 : Int32)) C dX4_yearAt_17 (by decide) ?_
    exact z_iretR C hr hlk (by rw [hf]) dX4_yearAt_19
  · rw [if_neg c5] at hf
    have b5 := c5
    rw [← hu2] at c5
    refine z_aload_n C dX4_yearAt_8 rfl 0 rfl ?_
    refine z_get (T := TX4) (v := .ref a3) C i_X4_yearAt_4 0 rfl rfl 2 (by decide) m_X4_yearAt_1 rfl rfl dX4_yearAt_9 ?_
    refine z_iload_n C dX4_yearAt_12 rfl 1 rfl ?_
    refine z_ald C 1 rfl (by subst hu2; exact (isPin_ix c5)) dX4_yearAt_13 ?_
    refine z_goto (tgt := 19) C dX4_yearAt_14 (by decide) ?_
    exact z_iretR C hr hlk (by rw [hf]) dX4_yearAt_19
-- X4_turnAt
theorem i_X4_turnAt_4 : ∀ w ∈ u_ws RX4 TX4 7, w ∈ wsX4_turnAt := by decide +kernel
theorem m_X4_turnAt_1 : Cond.fieldLink RX4 9 "WishPins$Well" "kind" "[I" ∈ wsX4_turnAt := List.mem_of_getElem? (i := 1) rfl
theorem m_X4_turnAt_2 : Cond.fieldLink RX4 15 "WishPins$Well" "bend" "[I" ∈ wsX4_turnAt := List.mem_of_getElem? (i := 2) rfl
theorem m_X4_turnAt_10 : Cond.initialized RX5 ∈ wsX4_turnAt := List.mem_of_getElem? (i := 10) rfl
theorem m_X4_turnAt_9 : Cond.static yX5_turnOf ∈ wsX4_turnAt := List.mem_of_getElem? (i := 9) rfl
def F_X4_turnAt (pn : Int32) (kd : Nat → Int32) (bd : Nat → Int32) (k : Int32) : Int32 :=
  (if (F_X4_isPin pn k) = 0 then (-9 : Int32) else (F_X5_turnOf (kd k.toNatClampNeg) (bd k.toNatClampNeg)))
set_option maxHeartbeats 4000000 in
set_option maxRecDepth 100000 in
theorem c_X4_turnAt (l : Launch) (D : va_G) (cI cO : ClassId) (h4 : Nat) (a1 : Nat) (a2 : Nat) (a3 : Nat) (pn : Int32) (sl : Int32) (dr : Int32) (nw : Int32) (kd : Nat → Int32) (bd : Nat → Int32) (k : Int32) : zR l yX4_turnAt wsX4_turnAt ({ frames := 1, cells := 0, slots := 0, locals := 21 } : Room) D cI cO [.ref h4, .int k] [(h4, .inr (4, [.ref a1, .ref a2, .ref a3, .int pn, .int sl, .int dr, .int nw])), (a1, .inl (cI, 9, .inl kd)), (a2, .inl (cI, 9, .inl bd))] (some (.int (F_X4_turnAt pn kd bd k))) := by
  refine zR_of (nL := 2) (cc := cX4_turnAt) (ret := some .int) (lv := [(0, .ref h4), (1, .int k)]) (by decide +kernel) rfl (Nat.le_of_ble_eq_true rfl) rfl (fun p e s m args below meth c C hr hlk => ?_)
  have hf := F_X4_turnAt.eq_1 pn kd bd k
  refine z_aload_n C dX4_turnAt_0 rfl 0 rfl ?_
  refine z_iload_n C dX4_turnAt_1 rfl 1 rfl ?_
  refine z_cVR (As := [.int k]) C (c_X4_isPin l D cI cO h4 a1 a2 a3 pn sl dr nw k) (cwV 1 C.2.2.2.2.1 gX4_turnAt_X4_isPin rfl rfl rfl hdV_X4_isPin ⟨Nat.le_of_ble_eq_true rfl, Nat.le_of_ble_eq_true rfl⟩) [0] rfl rfl 0 rfl rfl rfl _ rfl (Nat.le_of_ble_eq_true rfl) ⟨Nat.zero_le _, Nat.zero_le _⟩ dX4_turnAt_2 ?_
  generalize hu2 : (F_X4_isPin pn k) = u2 at hf ⊢
  refine z_if_eq (tgt := 26) C dX4_turnAt_5 (by decide) (fun c5 => ?_) (fun c5 => ?_)
  · rw [if_pos c5] at hf
    have b5 := c5
    rw [← hu2] at c5
    refine z_bipush (v := (-9 : Int32)) C dX4_turnAt_26 (by decide) ?_
    exact z_iretR C hr hlk (by rw [hf]) dX4_turnAt_28
  · rw [if_neg c5] at hf
    have b5 := c5
    rw [← hu2] at c5
    refine z_aload_n C dX4_turnAt_8 rfl 0 rfl ?_
    refine z_get (T := TX4) (v := .ref a1) C i_X4_turnAt_4 0 rfl rfl 0 (by decide) m_X4_turnAt_1 rfl rfl dX4_turnAt_9 ?_
    refine z_iload_n C dX4_turnAt_12 rfl 1 rfl ?_
    refine z_ald C 1 rfl (by subst hu2; exact (isPin_ix c5)) dX4_turnAt_13 ?_
    refine z_aload_n C dX4_turnAt_14 rfl 0 rfl ?_
    refine z_get (T := TX4) (v := .ref a2) C i_X4_turnAt_4 0 rfl rfl 1 (by decide) m_X4_turnAt_2 rfl rfl dX4_turnAt_15 ?_
    refine z_iload_n C dX4_turnAt_18 rfl 1 rfl ?_
    refine z_ald C 2 rfl (by subst hu2; exact (isPin_ix c5)) dX4_turnAt_19 ?_
    refine z_cNR (As := [.int (kd k.toNatClampNeg), .int (bd k.toNatClampNeg)]) C (c_X5_turnOf l D cI cO (kd k.toNatClampNeg) (bd k.toNatClampNeg)) ⟨va_cnB 2 C.2.2.2.2.1 gX4_turnAt_X5_turnOf_n54 rfl rfl rfl (zN_7 C.2.2.2.2.2.2) (C.2.2.2.2.1 _ m_X4_turnAt_10) hdS_X5_turnOf ⟨Nat.le_of_ble_eq_true rfl, Nat.le_of_ble_eq_true rfl⟩, C.2.2.2.2.1 _ m_X4_turnAt_9, trivial⟩ [] rfl rfl rfl _ rfl (Nat.le_of_ble_eq_true rfl) ⟨Nat.zero_le _, Nat.zero_le _⟩ dX4_turnAt_20 ?_
    generalize hu20 : (F_X5_turnOf (kd k.toNatClampNeg) (bd k.toNatClampNeg)) = u20 at hf ⊢
    refine z_goto (tgt := 28) C dX4_turnAt_23 (by decide) ?_
    exact z_iretR C hr hlk (by rw [hf]) dX4_turnAt_28
-- X4_wishAt
theorem i_X4_wishAt_4 : ∀ w ∈ u_ws RX4 TX4 7, w ∈ wsX4_wishAt := by decide +kernel
theorem m_X4_wishAt_1 : Cond.fieldLink RX4 27 "WishPins$Well" "slope" "I" ∈ wsX4_wishAt := List.mem_of_getElem? (i := 1) rfl
theorem m_X4_wishAt_2 : Cond.fieldLink RX4 9 "WishPins$Well" "kind" "[I" ∈ wsX4_wishAt := List.mem_of_getElem? (i := 2) rfl
theorem m_X4_wishAt_3 : Cond.fieldLink RX4 15 "WishPins$Well" "bend" "[I" ∈ wsX4_wishAt := List.mem_of_getElem? (i := 3) rfl
theorem m_X4_wishAt_13 : Cond.initialized RX5 ∈ wsX4_wishAt := List.mem_of_getElem? (i := 13) rfl
theorem m_X4_wishAt_12 : Cond.static yX5_turnOf ∈ wsX4_wishAt := List.mem_of_getElem? (i := 12) rfl
theorem m_X4_wishAt_4 : Cond.fieldLink RX4 31 "WishPins$Well" "drift" "I" ∈ wsX4_wishAt := List.mem_of_getElem? (i := 4) rfl
theorem m_X4_wishAt_5 : Cond.fieldLink RX4 18 "WishPins$Well" "year" "[I" ∈ wsX4_wishAt := List.mem_of_getElem? (i := 5) rfl
theorem m_X4_wishAt_15 : Cond.static yX5_wishOf ∈ wsX4_wishAt := List.mem_of_getElem? (i := 15) rfl
def F_X4_wishAt (pn : Int32) (sl : Int32) (dr : Int32) (kd : Nat → Int32) (bd : Nat → Int32) (yr : Nat → Int32) (k : Int32) : Int32 :=
  (if (F_X4_isPin pn k) = 0 then (-9 : Int32) else (F_X5_wishOf sl (F_X5_turnOf (kd k.toNatClampNeg) (bd k.toNatClampNeg)) dr (yr k.toNatClampNeg)))
set_option maxHeartbeats 4000000 in
set_option maxRecDepth 100000 in
theorem c_X4_wishAt (l : Launch) (D : va_G) (cI cO : ClassId) (h4 : Nat) (a1 : Nat) (a2 : Nat) (a3 : Nat) (pn : Int32) (sl : Int32) (dr : Int32) (nw : Int32) (kd : Nat → Int32) (bd : Nat → Int32) (yr : Nat → Int32) (k : Int32) : zR l yX4_wishAt wsX4_wishAt ({ frames := 1, cells := 0, slots := 0, locals := 23 } : Room) D cI cO [.ref h4, .int k] [(h4, .inr (4, [.ref a1, .ref a2, .ref a3, .int pn, .int sl, .int dr, .int nw])), (a1, .inl (cI, 9, .inl kd)), (a2, .inl (cI, 9, .inl bd)), (a3, .inl (cI, 9, .inl yr))] (some (.int (F_X4_wishAt pn sl dr kd bd yr k))) := by
  refine zR_of (nL := 2) (cc := cX4_wishAt) (ret := some .int) (lv := [(0, .ref h4), (1, .int k)]) (by decide +kernel) rfl (Nat.le_of_ble_eq_true rfl) rfl (fun p e s m args below meth c C hr hlk => ?_)
  have hf := F_X4_wishAt.eq_1 pn sl dr kd bd yr k
  refine z_aload_n C dX4_wishAt_0 rfl 0 rfl ?_
  refine z_iload_n C dX4_wishAt_1 rfl 1 rfl ?_
  refine z_cVR (As := [.int k]) C (c_X4_isPin l D cI cO h4 a1 a2 a3 pn sl dr nw k) (cwV 1 C.2.2.2.2.1 gX4_wishAt_X4_isPin rfl rfl rfl hdV_X4_isPin ⟨Nat.le_of_ble_eq_true rfl, Nat.le_of_ble_eq_true rfl⟩) [0] rfl rfl 0 rfl rfl rfl _ rfl (Nat.le_of_ble_eq_true rfl) ⟨Nat.zero_le _, Nat.zero_le _⟩ dX4_wishAt_2 ?_
  generalize hu2 : (F_X4_isPin pn k) = u2 at hf ⊢
  refine z_if_eq (tgt := 43) C dX4_wishAt_5 (by decide) (fun c5 => ?_) (fun c5 => ?_)
  · rw [if_pos c5] at hf
    have b5 := c5
    rw [← hu2] at c5
    refine z_bipush (v := (-9 : Int32)) C dX4_wishAt_43 (by decide) ?_
    exact z_iretR C hr hlk (by rw [hf]) dX4_wishAt_45
  · rw [if_neg c5] at hf
    have b5 := c5
    rw [← hu2] at c5
    refine z_aload_n C dX4_wishAt_8 rfl 0 rfl ?_
    refine z_get (T := TX4) (v := .int sl) C i_X4_wishAt_4 0 rfl rfl 4 (by decide) m_X4_wishAt_1 rfl rfl dX4_wishAt_9 ?_
    refine z_aload_n C dX4_wishAt_12 rfl 0 rfl ?_
    refine z_get (T := TX4) (v := .ref a1) C i_X4_wishAt_4 0 rfl rfl 0 (by decide) m_X4_wishAt_2 rfl rfl dX4_wishAt_13 ?_
    refine z_iload_n C dX4_wishAt_16 rfl 1 rfl ?_
    refine z_ald C 1 rfl (by subst hu2; exact (isPin_ix c5)) dX4_wishAt_17 ?_
    refine z_aload_n C dX4_wishAt_18 rfl 0 rfl ?_
    refine z_get (T := TX4) (v := .ref a2) C i_X4_wishAt_4 0 rfl rfl 1 (by decide) m_X4_wishAt_3 rfl rfl dX4_wishAt_19 ?_
    refine z_iload_n C dX4_wishAt_22 rfl 1 rfl ?_
    refine z_ald C 2 rfl (by subst hu2; exact (isPin_ix c5)) dX4_wishAt_23 ?_
    refine z_cNR (As := [.int (kd k.toNatClampNeg), .int (bd k.toNatClampNeg)]) C (c_X5_turnOf l D cI cO (kd k.toNatClampNeg) (bd k.toNatClampNeg)) ⟨va_cnB 2 C.2.2.2.2.1 gX4_wishAt_X5_turnOf_n54 rfl rfl rfl (zN_7 C.2.2.2.2.2.2) (C.2.2.2.2.1 _ m_X4_wishAt_13) hdS_X5_turnOf ⟨Nat.le_of_ble_eq_true rfl, Nat.le_of_ble_eq_true rfl⟩, C.2.2.2.2.1 _ m_X4_wishAt_12, trivial⟩ [] rfl rfl rfl _ rfl (Nat.le_of_ble_eq_true rfl) ⟨Nat.zero_le _, Nat.zero_le _⟩ dX4_wishAt_24 ?_
    generalize hu24 : (F_X5_turnOf (kd k.toNatClampNeg) (bd k.toNatClampNeg)) = u24 at hf ⊢
    refine z_aload_n C dX4_wishAt_27 rfl 0 rfl ?_
    refine z_get (T := TX4) (v := .int dr) C i_X4_wishAt_4 0 rfl rfl 5 (by decide) m_X4_wishAt_4 rfl rfl dX4_wishAt_28 ?_
    refine z_aload_n C dX4_wishAt_31 rfl 0 rfl ?_
    refine z_get (T := TX4) (v := .ref a3) C i_X4_wishAt_4 0 rfl rfl 2 (by decide) m_X4_wishAt_5 rfl rfl dX4_wishAt_32 ?_
    refine z_iload_n C dX4_wishAt_35 rfl 1 rfl ?_
    refine z_ald C 3 rfl (by subst hu24 hu2; exact (isPin_ix c5)) dX4_wishAt_36 ?_
    refine z_cNR (As := [.int sl, .int u24, .int dr, .int (yr k.toNatClampNeg)]) C (c_X5_wishOf l D cI cO sl u24 dr (yr k.toNatClampNeg)) ⟨va_cnB 4 C.2.2.2.2.1 gX4_wishAt_X5_wishOf_n58 rfl rfl rfl (zN_8 C.2.2.2.2.2.2) (C.2.2.2.2.1 _ m_X4_wishAt_13) hdS_X5_wishOf ⟨Nat.le_of_ble_eq_true rfl, Nat.le_of_ble_eq_true rfl⟩, C.2.2.2.2.1 _ m_X4_wishAt_15, trivial⟩ [] rfl rfl rfl _ rfl (Nat.le_of_ble_eq_true rfl) ⟨Nat.zero_le _, Nat.zero_le _⟩ dX4_wishAt_37 ?_
    generalize hu37 : (F_X5_wishOf sl u24 dr (yr k.toNatClampNeg)) = u37 at hf ⊢
    refine z_goto (tgt := 45) C dX4_wishAt_40 (by decide) ?_
    exact z_iretR C hr hlk (by rw [hf]) dX4_wishAt_45
-- X4_wishNow
theorem i_X4_wishNow_4 : ∀ w ∈ u_ws RX4 TX4 7, w ∈ wsX4_wishNow := by decide +kernel
theorem m_X4_wishNow_1 : Cond.fieldLink RX4 27 "WishPins$Well" "slope" "I" ∈ wsX4_wishNow := List.mem_of_getElem? (i := 1) rfl
theorem m_X4_wishNow_5 : Cond.initialized RX5 ∈ wsX4_wishNow := List.mem_of_getElem? (i := 5) rfl
theorem m_X4_wishNow_4 : Cond.static yX5_turnOf ∈ wsX4_wishNow := List.mem_of_getElem? (i := 4) rfl
theorem m_X4_wishNow_2 : Cond.fieldLink RX4 31 "WishPins$Well" "drift" "I" ∈ wsX4_wishNow := List.mem_of_getElem? (i := 2) rfl
theorem m_X4_wishNow_3 : Cond.fieldLink RX4 37 "WishPins$Well" "now" "I" ∈ wsX4_wishNow := List.mem_of_getElem? (i := 3) rfl
theorem m_X4_wishNow_7 : Cond.static yX5_wishOf ∈ wsX4_wishNow := List.mem_of_getElem? (i := 7) rfl
def F_X4_wishNow (sl : Int32) (dr : Int32) (nw : Int32) (k : Int32) (b : Int32) : Int32 :=
  (F_X5_wishOf sl (F_X5_turnOf k b) dr nw)
set_option maxHeartbeats 4000000 in
set_option maxRecDepth 100000 in
theorem c_X4_wishNow (l : Launch) (D : va_G) (cI cO : ClassId) (h4 : Nat) (a1 : Nat) (a2 : Nat) (a3 : Nat) (pn : Int32) (sl : Int32) (dr : Int32) (nw : Int32) (k : Int32) (b : Int32) : zR l yX4_wishNow wsX4_wishNow ({ frames := 1, cells := 0, slots := 0, locals := 23 } : Room) D cI cO [.ref h4, .int k, .int b] [(h4, .inr (4, [.ref a1, .ref a2, .ref a3, .int pn, .int sl, .int dr, .int nw]))] (some (.int (F_X4_wishNow sl dr nw k b))) := by
  refine zR_of (nL := 3) (cc := cX4_wishNow) (ret := some .int) (lv := [(0, .ref h4), (1, .int k), (2, .int b)]) (by decide +kernel) rfl (Nat.le_of_ble_eq_true rfl) rfl (fun p e s m args below meth c C hr hlk => ?_)
  have hf := F_X4_wishNow.eq_1 sl dr nw k b
  refine z_aload_n C dX4_wishNow_0 rfl 0 rfl ?_
  refine z_get (T := TX4) (v := .int sl) C i_X4_wishNow_4 0 rfl rfl 4 (by decide) m_X4_wishNow_1 rfl rfl dX4_wishNow_1 ?_
  refine z_iload_n C dX4_wishNow_4 rfl 1 rfl ?_
  refine z_iload_n C dX4_wishNow_5 rfl 2 rfl ?_
  refine z_cNR (As := [.int k, .int b]) C (c_X5_turnOf l D cI cO k b) ⟨va_cnB 2 C.2.2.2.2.1 gX4_wishNow_X5_turnOf_n54 rfl rfl rfl (zN_7 C.2.2.2.2.2.2) (C.2.2.2.2.1 _ m_X4_wishNow_5) hdS_X5_turnOf ⟨Nat.le_of_ble_eq_true rfl, Nat.le_of_ble_eq_true rfl⟩, C.2.2.2.2.1 _ m_X4_wishNow_4, trivial⟩ [] rfl rfl rfl _ rfl (Nat.le_of_ble_eq_true rfl) ⟨Nat.zero_le _, Nat.zero_le _⟩ dX4_wishNow_6 ?_
  generalize hu6 : (F_X5_turnOf k b) = u6 at hf ⊢
  refine z_aload_n C dX4_wishNow_9 rfl 0 rfl ?_
  refine z_get (T := TX4) (v := .int dr) C i_X4_wishNow_4 0 rfl rfl 5 (by decide) m_X4_wishNow_2 rfl rfl dX4_wishNow_10 ?_
  refine z_aload_n C dX4_wishNow_13 rfl 0 rfl ?_
  refine z_get (T := TX4) (v := .int nw) C i_X4_wishNow_4 0 rfl rfl 6 (by decide) m_X4_wishNow_3 rfl rfl dX4_wishNow_14 ?_
  refine z_cNR (As := [.int sl, .int u6, .int dr, .int nw]) C (c_X5_wishOf l D cI cO sl u6 dr nw) ⟨va_cnB 4 C.2.2.2.2.1 gX4_wishNow_X5_wishOf_n58 rfl rfl rfl (zN_8 C.2.2.2.2.2.2) (C.2.2.2.2.1 _ m_X4_wishNow_5) hdS_X5_wishOf ⟨Nat.le_of_ble_eq_true rfl, Nat.le_of_ble_eq_true rfl⟩, C.2.2.2.2.1 _ m_X4_wishNow_7, trivial⟩ [] rfl rfl rfl _ rfl (Nat.le_of_ble_eq_true rfl) ⟨Nat.zero_le _, Nat.zero_le _⟩ dX4_wishNow_17 ?_
  generalize hu17 : (F_X5_wishOf sl u6 dr nw) = u17 at hf ⊢
  exact z_iretR C hr hlk (by rw [hf]) dX4_wishNow_20
-- X4_setBend
theorem i_X4_setBend_4 : ∀ w ∈ u_ws RX4 TX4 7, w ∈ wsX4_setBend := by decide +kernel
theorem m_X4_setBend_1 : Cond.fieldLink RX4 15 "WishPins$Well" "bend" "[I" ∈ wsX4_setBend := List.mem_of_getElem? (i := 1) rfl
def F_X4_setBend (pn : Int32) (bd : Nat → Int32) (k : Int32) (v : Int32) : (Nat → Int32) :=
  (if (F_X4_isPin pn k) = 0 then bd else (upd bd k.toNatClampNeg v))
set_option maxHeartbeats 4000000 in
set_option maxRecDepth 100000 in
theorem c_X4_setBend (l : Launch) (D : va_G) (cI cO : ClassId) (h4 : Nat) (a1 : Nat) (a2 : Nat) (a3 : Nat) (pn : Int32) (sl : Int32) (dr : Int32) (nw : Int32) (bd : Nat → Int32) (k : Int32) (v : Int32) : zW l yX4_setBend wsX4_setBend ({ frames := 1, cells := 0, slots := 0, locals := 21 } : Room) D cI cO [.ref h4, .int k, .int v] [(h4, .inr (4, [.ref a1, .ref a2, .ref a3, .int pn, .int sl, .int dr, .int nw])), (a2, .inl (cI, 9, .inl bd))] [(h4, .inr (4, [.ref a1, .ref a2, .ref a3, .int pn, .int sl, .int dr, .int nw])), (a2, .inl (cI, 9, .inl (F_X4_setBend pn bd k v)))] none := by
  refine zW_of (nL := 3) (cc := cX4_setBend) (ret := none) (lv := [(0, .ref h4), (1, .int k), (2, .int v)]) (by decide +kernel) rfl (Nat.le_of_ble_eq_true rfl) rfl (fun p e s m args below meth c C hr hlk => ?_)
  have hf := F_X4_setBend.eq_1 pn bd k v
  refine z_aload_n C dX4_setBend_0 rfl 0 rfl ?_
  refine z_iload_n C dX4_setBend_1 rfl 1 rfl ?_
  refine z_cVR (As := [.int k]) C (c_X4_isPin l D cI cO h4 a1 a2 a3 pn sl dr nw k) (cwV 1 C.2.2.2.2.1 gX4_setBend_X4_isPin rfl rfl rfl hdV_X4_isPin ⟨Nat.le_of_ble_eq_true rfl, Nat.le_of_ble_eq_true rfl⟩) [0] rfl rfl 0 rfl rfl rfl _ rfl (Nat.le_of_ble_eq_true rfl) ⟨Nat.zero_le _, Nat.zero_le _⟩ dX4_setBend_2 ?_
  generalize hu2 : (F_X4_isPin pn k) = u2 at hf ⊢
  refine z_if_eq (tgt := 15) C dX4_setBend_5 (by decide) (fun c5 => ?_) (fun c5 => ?_)
  · rw [if_pos c5] at hf
    have b5 := c5
    rw [← hu2] at c5
    exact z_vretW C hr hlk (by rw [hf]) dX4_setBend_15
  · rw [if_neg c5] at hf
    have b5 := c5
    rw [← hu2] at c5
    refine z_aload_n C dX4_setBend_8 rfl 0 rfl ?_
    refine z_get (T := TX4) (v := .ref a2) C i_X4_setBend_4 0 rfl rfl 1 (by decide) m_X4_setBend_1 rfl rfl dX4_setBend_9 ?_
    refine z_iload_n C dX4_setBend_12 rfl 1 rfl ?_
    refine z_iload_n C dX4_setBend_13 rfl 2 rfl ?_
    refine z_ast C [(h4, .inr (4, [.ref a1, .ref a2, .ref a3, .int pn, .int sl, .int dr, .int nw])), (a2, .inl (cI, 9, .inl (upd bd k.toNatClampNeg v)))] 1 rfl (by subst hu2; exact (isPin_ix c5)) dX4_setBend_14 rfl ?_
    exact z_vretW C hr hlk (by rw [hf]) dX4_setBend_15
-- X4_addTop
theorem i_X4_addTop_4 : ∀ w ∈ u_ws RX4 TX4 7, w ∈ wsX4_addTop := by decide +kernel
theorem m_X4_addTop_1 : Cond.fieldLink RX4 34 "WishPins$Well" "pins" "I" ∈ wsX4_addTop := List.mem_of_getElem? (i := 1) rfl
theorem m_X4_addTop_2 : Cond.fieldLink RX4 9 "WishPins$Well" "kind" "[I" ∈ wsX4_addTop := List.mem_of_getElem? (i := 2) rfl
theorem m_X4_addTop_3 : Cond.fieldLink RX4 15 "WishPins$Well" "bend" "[I" ∈ wsX4_addTop := List.mem_of_getElem? (i := 3) rfl
theorem m_X4_addTop_4 : Cond.fieldLink RX4 18 "WishPins$Well" "year" "[I" ∈ wsX4_addTop := List.mem_of_getElem? (i := 4) rfl
theorem m_X4_addTop_5 : Cond.fieldLink RX4 37 "WishPins$Well" "now" "I" ∈ wsX4_addTop := List.mem_of_getElem? (i := 5) rfl
def F_X4_addTop (pn : Int32) (nw : Int32) (kd : Nat → Int32) (bd : Nat → Int32) (yr : Nat → Int32) (k : Int32) (b : Int32) : Int32 × Int32 × (Nat → Int32) × (Nat → Int32) × (Nat → Int32) :=
  (if pn < 0 then ((0 : Int32), pn, kd, bd, yr) else (if pn < (9 : Int32) then ((1 : Int32), (pn + (1 : Int32)), (upd kd pn.toNatClampNeg k), (upd bd pn.toNatClampNeg b), (upd yr pn.toNatClampNeg nw)) else ((0 : Int32), pn, kd, bd, yr)))
set_option maxHeartbeats 4000000 in
set_option maxRecDepth 100000 in
theorem c_X4_addTop (l : Launch) (D : va_G) (cI cO : ClassId) (h4 : Nat) (a1 : Nat) (a2 : Nat) (a3 : Nat) (pn : Int32) (sl : Int32) (dr : Int32) (nw : Int32) (kd : Nat → Int32) (bd : Nat → Int32) (yr : Nat → Int32) (k : Int32) (b : Int32) : zW l yX4_addTop wsX4_addTop ({ frames := 0, cells := 0, slots := 0, locals := 0 } : Room) D cI cO [.ref h4, .int k, .int b] [(h4, .inr (4, [.ref a1, .ref a2, .ref a3, .int pn, .int sl, .int dr, .int nw])), (a1, .inl (cI, 9, .inl kd)), (a2, .inl (cI, 9, .inl bd)), (a3, .inl (cI, 9, .inl yr))] [(h4, .inr (4, [.ref a1, .ref a2, .ref a3, .int ((F_X4_addTop pn nw kd bd yr k b).2.1), .int sl, .int dr, .int nw])), (a1, .inl (cI, 9, .inl ((F_X4_addTop pn nw kd bd yr k b).2.2.1))), (a2, .inl (cI, 9, .inl ((F_X4_addTop pn nw kd bd yr k b).2.2.2.1))), (a3, .inl (cI, 9, .inl ((F_X4_addTop pn nw kd bd yr k b).2.2.2.2)))] (some (.int ((F_X4_addTop pn nw kd bd yr k b).1))) := by
  refine zW_of (nL := 3) (cc := cX4_addTop) (ret := some .boolean) (lv := [(0, .ref h4), (1, .int k), (2, .int b)]) (by decide +kernel) rfl (Nat.le_of_ble_eq_true rfl) rfl (fun p e s m args below meth c C hr hlk => ?_)
  have hf := F_X4_addTop.eq_1 pn nw kd bd yr k b
  refine z_aload_n C dX4_addTop_0 rfl 0 rfl ?_
  refine z_get (T := TX4) (v := .int pn) C i_X4_addTop_4 0 rfl rfl 3 (by decide) m_X4_addTop_1 rfl rfl dX4_addTop_1 ?_
  refine z_if_lt (tgt := 16) C dX4_addTop_4 (by decide) (fun c4 => ?_) (fun c4 => ?_)
  · rw [if_pos c4] at hf
    refine z_iconst (v := (0 : Int32)) C dX4_addTop_16 (by decide) ?_
    exact z_zretW C hr hlk rfl (by rw [hf]) (by rw [hf]) dX4_addTop_17
  · rw [if_neg c4] at hf
    refine z_aload_n C dX4_addTop_7 rfl 0 rfl ?_
    refine z_get (T := TX4) (v := .int pn) C i_X4_addTop_4 0 rfl rfl 3 (by decide) m_X4_addTop_1 rfl rfl dX4_addTop_8 ?_
    refine z_bipush (v := (9 : Int32)) C dX4_addTop_11 (by decide) ?_
    refine z_icmp_lt (tgt := 18) C dX4_addTop_13 (by decide) (fun c13 => ?_) (fun c13 => ?_)
    · rw [if_pos c13] at hf
      refine z_aload_n C dX4_addTop_18 rfl 0 rfl ?_
      refine z_get (T := TX4) (v := .ref a1) C i_X4_addTop_4 0 rfl rfl 0 (by decide) m_X4_addTop_2 rfl rfl dX4_addTop_19 ?_
      refine z_aload_n C dX4_addTop_22 rfl 0 rfl ?_
      refine z_get (T := TX4) (v := .int pn) C i_X4_addTop_4 0 rfl rfl 3 (by decide) m_X4_addTop_1 rfl rfl dX4_addTop_23 ?_
      refine z_iload_n C dX4_addTop_26 rfl 1 rfl ?_
      refine z_ast C [(h4, .inr (4, [.ref a1, .ref a2, .ref a3, .int pn, .int sl, .int dr, .int nw])), (a1, .inl (cI, 9, .inl (upd kd pn.toNatClampNeg k))), (a2, .inl (cI, 9, .inl bd)), (a3, .inl (cI, 9, .inl yr))] 1 rfl (z_in (N := 9) (by decide) c4 c13) dX4_addTop_27 rfl ?_
      refine z_aload_n C dX4_addTop_28 rfl 0 rfl ?_
      refine z_get (T := TX4) (v := .ref a2) C i_X4_addTop_4 0 rfl rfl 1 (by decide) m_X4_addTop_3 rfl rfl dX4_addTop_29 ?_
      refine z_aload_n C dX4_addTop_32 rfl 0 rfl ?_
      refine z_get (T := TX4) (v := .int pn) C i_X4_addTop_4 0 rfl rfl 3 (by decide) m_X4_addTop_1 rfl rfl dX4_addTop_33 ?_
      refine z_iload_n C dX4_addTop_36 rfl 2 rfl ?_
      refine z_ast C [(h4, .inr (4, [.ref a1, .ref a2, .ref a3, .int pn, .int sl, .int dr, .int nw])), (a1, .inl (cI, 9, .inl (upd kd pn.toNatClampNeg k))), (a2, .inl (cI, 9, .inl (upd bd pn.toNatClampNeg b))), (a3, .inl (cI, 9, .inl yr))] 2 rfl (z_in (N := 9) (by decide) c4 c13) dX4_addTop_37 rfl ?_
      refine z_aload_n C dX4_addTop_38 rfl 0 rfl ?_
      refine z_get (T := TX4) (v := .ref a3) C i_X4_addTop_4 0 rfl rfl 2 (by decide) m_X4_addTop_4 rfl rfl dX4_addTop_39 ?_
      refine z_aload_n C dX4_addTop_42 rfl 0 rfl ?_
      refine z_get (T := TX4) (v := .int pn) C i_X4_addTop_4 0 rfl rfl 3 (by decide) m_X4_addTop_1 rfl rfl dX4_addTop_43 ?_
      refine z_aload_n C dX4_addTop_46 rfl 0 rfl ?_
      refine z_get (T := TX4) (v := .int nw) C i_X4_addTop_4 0 rfl rfl 6 (by decide) m_X4_addTop_5 rfl rfl dX4_addTop_47 ?_
      refine z_ast C [(h4, .inr (4, [.ref a1, .ref a2, .ref a3, .int pn, .int sl, .int dr, .int nw])), (a1, .inl (cI, 9, .inl (upd kd pn.toNatClampNeg k))), (a2, .inl (cI, 9, .inl (upd bd pn.toNatClampNeg b))), (a3, .inl (cI, 9, .inl (upd yr pn.toNatClampNeg nw)))] 3 rfl (z_in (N := 9) (by decide) c4 c13) dX4_addTop_50 rfl ?_
      refine z_aload_n C dX4_addTop_51 rfl 0 rfl ?_
      refine z_dup C dX4_addTop_52 rfl ?_
      refine z_get (T := TX4) (v := .int pn) C i_X4_addTop_4 0 rfl rfl 3 (by decide) m_X4_addTop_1 rfl rfl dX4_addTop_53 ?_
      refine z_iconst (v := (1 : Int32)) C dX4_addTop_56 (by decide) ?_
      refine z_iadd C dX4_addTop_57 ?_
      refine z_put (T := TX4) (ty := .int) C [(h4, .inr (4, [.ref a1, .ref a2, .ref a3, .int (pn + (1 : Int32)), .int sl, .int dr, .int nw])), (a1, .inl (cI, 9, .inl (upd kd pn.toNatClampNeg k))), (a2, .inl (cI, 9, .inl (upd bd pn.toNatClampNeg b))), (a3, .inl (cI, 9, .inl (upd yr pn.toNatClampNeg nw)))] i_X4_addTop_4 tyX4 tyX4_ok nmX4 0 rfl rfl 3 (by decide) m_X4_addTop_1 rfl rfl (by decide +kernel) rfl rfl (Nat.le_of_ble_eq_true rfl) dX4_addTop_58 rfl ?_
      refine z_iconst (v := (1 : Int32)) C dX4_addTop_61 (by decide) ?_
      exact z_zretW C hr hlk rfl (by rw [hf]) (by rw [hf]) dX4_addTop_62
    · rw [if_neg c13] at hf
      refine z_iconst (v := (0 : Int32)) C dX4_addTop_16 (by decide) ?_
      exact z_zretW C hr hlk rfl (by rw [hf]) (by rw [hf]) dX4_addTop_17
-- X4_dropTop
theorem i_X4_dropTop_4 : ∀ w ∈ u_ws RX4 TX4 7, w ∈ wsX4_dropTop := by decide +kernel
theorem m_X4_dropTop_1 : Cond.fieldLink RX4 34 "WishPins$Well" "pins" "I" ∈ wsX4_dropTop := List.mem_of_getElem? (i := 1) rfl
def F_X4_dropTop (pn : Int32) : Int32 × Int32 :=
  (if (2 : Int32) ≤ pn then ((1 : Int32), (pn - (1 : Int32))) else ((0 : Int32), pn))
set_option maxHeartbeats 4000000 in
set_option maxRecDepth 100000 in
theorem c_X4_dropTop (l : Launch) (D : va_G) (cI cO : ClassId) (h4 : Nat) (a1 : Nat) (a2 : Nat) (a3 : Nat) (pn : Int32) (sl : Int32) (dr : Int32) (nw : Int32) : zW l yX4_dropTop wsX4_dropTop ({ frames := 0, cells := 0, slots := 0, locals := 0 } : Room) D cI cO [.ref h4] [(h4, .inr (4, [.ref a1, .ref a2, .ref a3, .int pn, .int sl, .int dr, .int nw]))] [(h4, .inr (4, [.ref a1, .ref a2, .ref a3, .int ((F_X4_dropTop pn).2), .int sl, .int dr, .int nw]))] (some (.int ((F_X4_dropTop pn).1))) := by
  refine zW_of (nL := 1) (cc := cX4_dropTop) (ret := some .boolean) (lv := [(0, .ref h4)]) (by decide +kernel) rfl (Nat.le_of_ble_eq_true rfl) rfl (fun p e s m args below meth c C hr hlk => ?_)
  have hf := F_X4_dropTop.eq_1 pn
  refine z_aload_n C dX4_dropTop_0 rfl 0 rfl ?_
  refine z_get (T := TX4) (v := .int pn) C i_X4_dropTop_4 0 rfl rfl 3 (by decide) m_X4_dropTop_1 rfl rfl dX4_dropTop_1 ?_
  refine z_iconst (v := (2 : Int32)) C dX4_dropTop_4 (by decide) ?_
  refine z_icmp_ge (tgt := 10) C dX4_dropTop_5 (by decide) (fun c5 => ?_) (fun c5 => ?_)
  · rw [if_pos c5] at hf
    refine z_aload_n C dX4_dropTop_10 rfl 0 rfl ?_
    refine z_dup C dX4_dropTop_11 rfl ?_
    refine z_get (T := TX4) (v := .int pn) C i_X4_dropTop_4 0 rfl rfl 3 (by decide) m_X4_dropTop_1 rfl rfl dX4_dropTop_12 ?_
    refine z_iconst (v := (1 : Int32)) C dX4_dropTop_15 (by decide) ?_
    refine z_isub C dX4_dropTop_16 ?_
    refine z_put (T := TX4) (ty := .int) C [(h4, .inr (4, [.ref a1, .ref a2, .ref a3, .int (pn - (1 : Int32)), .int sl, .int dr, .int nw]))] i_X4_dropTop_4 tyX4 tyX4_ok nmX4 0 rfl rfl 3 (by decide) m_X4_dropTop_1 rfl rfl (by decide +kernel) rfl rfl (Nat.le_of_ble_eq_true rfl) dX4_dropTop_17 rfl ?_
    refine z_iconst (v := (1 : Int32)) C dX4_dropTop_20 (by decide) ?_
    exact z_zretW C hr hlk rfl (by rw [hf]) (by rw [hf]) dX4_dropTop_21
  · rw [if_neg c5] at hf
    refine z_iconst (v := (0 : Int32)) C dX4_dropTop_8 (by decide) ?_
    exact z_zretW C hr hlk rfl (by rw [hf]) (by rw [hf]) dX4_dropTop_9
-- X4_become
theorem i_X4_become_4 : ∀ w ∈ u_ws RX4 TX4 7, w ∈ wsX4_become := by decide +kernel
theorem m_X4_become_1 : Cond.fieldLink RX4 9 "WishPins$Well" "kind" "[I" ∈ wsX4_become := List.mem_of_getElem? (i := 1) rfl
theorem m_X4_become_2 : Cond.methodLink RX4 44 arraycopyName ∈ wsX4_become := List.mem_of_getElem? (i := 2) rfl
theorem m_X4_become_3 : Cond.native arraycopyName ∈ wsX4_become := List.mem_of_getElem? (i := 3) rfl
theorem m_X4_become_4 : Cond.static arraycopyName ∈ wsX4_become := List.mem_of_getElem? (i := 4) rfl
theorem m_X4_become_5 : Cond.initialized "java/lang/System" ∈ wsX4_become := List.mem_of_getElem? (i := 5) rfl
theorem m_X4_become_6 : Cond.fieldLink RX4 15 "WishPins$Well" "bend" "[I" ∈ wsX4_become := List.mem_of_getElem? (i := 6) rfl
theorem m_X4_become_7 : Cond.fieldLink RX4 18 "WishPins$Well" "year" "[I" ∈ wsX4_become := List.mem_of_getElem? (i := 7) rfl
theorem m_X4_become_8 : Cond.fieldLink RX4 34 "WishPins$Well" "pins" "I" ∈ wsX4_become := List.mem_of_getElem? (i := 8) rfl
theorem m_X4_become_9 : Cond.fieldLink RX4 27 "WishPins$Well" "slope" "I" ∈ wsX4_become := List.mem_of_getElem? (i := 9) rfl
theorem m_X4_become_10 : Cond.fieldLink RX4 31 "WishPins$Well" "drift" "I" ∈ wsX4_become := List.mem_of_getElem? (i := 10) rfl
theorem m_X4_become_11 : Cond.fieldLink RX4 37 "WishPins$Well" "now" "I" ∈ wsX4_become := List.mem_of_getElem? (i := 11) rfl
def F_X4_become (kd : Nat → Int32) (bd : Nat → Int32) (yr : Nat → Int32) (pnt : Int32) (slt : Int32) (drt : Int32) (nwt : Int32) (kdt : Nat → Int32) (bdt : Nat → Int32) (yrt : Nat → Int32) : Int32 × Int32 × Int32 × Int32 × (Nat → Int32) × (Nat → Int32) × (Nat → Int32) :=
  (pnt, slt, drt, nwt, (va_cpy kdt kd (0 : Int32).toNatClampNeg (0 : Int32).toNatClampNeg (9 : Int32).toNatClampNeg), (va_cpy bdt bd (0 : Int32).toNatClampNeg (0 : Int32).toNatClampNeg (9 : Int32).toNatClampNeg), (va_cpy yrt yr (0 : Int32).toNatClampNeg (0 : Int32).toNatClampNeg (9 : Int32).toNatClampNeg))
set_option maxHeartbeats 4000000 in
set_option maxRecDepth 100000 in
theorem c_X4_become (l : Launch) (D : va_G) (cI cO : ClassId) (h4 : Nat) (a1 : Nat) (a2 : Nat) (a3 : Nat) (pn : Int32) (sl : Int32) (dr : Int32) (nw : Int32) (kd : Nat → Int32) (bd : Nat → Int32) (yr : Nat → Int32) (h4t : Nat) (a1t : Nat) (a2t : Nat) (a3t : Nat) (pnt : Int32) (slt : Int32) (drt : Int32) (nwt : Int32) (kdt : Nat → Int32) (bdt : Nat → Int32) (yrt : Nat → Int32) : zW l yX4_become wsX4_become ({ frames := 1, cells := 0, slots := 0, locals := 40 } : Room) D cI cO [.ref h4, .ref h4t] [(h4, .inr (4, [.ref a1, .ref a2, .ref a3, .int pn, .int sl, .int dr, .int nw])), (a1, .inl (cI, 9, .inl kd)), (a2, .inl (cI, 9, .inl bd)), (a3, .inl (cI, 9, .inl yr)), (h4t, .inr (4, [.ref a1t, .ref a2t, .ref a3t, .int pnt, .int slt, .int drt, .int nwt])), (a1t, .inl (cI, 9, .inl kdt)), (a2t, .inl (cI, 9, .inl bdt)), (a3t, .inl (cI, 9, .inl yrt))] [(h4, .inr (4, [.ref a1, .ref a2, .ref a3, .int ((F_X4_become kd bd yr pnt slt drt nwt kdt bdt yrt).1), .int ((F_X4_become kd bd yr pnt slt drt nwt kdt bdt yrt).2.1), .int ((F_X4_become kd bd yr pnt slt drt nwt kdt bdt yrt).2.2.1), .int ((F_X4_become kd bd yr pnt slt drt nwt kdt bdt yrt).2.2.2.1)])), (a1, .inl (cI, 9, .inl ((F_X4_become kd bd yr pnt slt drt nwt kdt bdt yrt).2.2.2.2.1))), (a2, .inl (cI, 9, .inl ((F_X4_become kd bd yr pnt slt drt nwt kdt bdt yrt).2.2.2.2.2.1))), (a3, .inl (cI, 9, .inl ((F_X4_become kd bd yr pnt slt drt nwt kdt bdt yrt).2.2.2.2.2.2))), (h4t, .inr (4, [.ref a1t, .ref a2t, .ref a3t, .int pnt, .int slt, .int drt, .int nwt])), (a1t, .inl (cI, 9, .inl kdt)), (a2t, .inl (cI, 9, .inl bdt)), (a3t, .inl (cI, 9, .inl yrt))] none := by
  refine zW_of (nL := 2) (cc := cX4_become) (ret := none) (lv := [(0, .ref h4), (1, .ref h4t)]) (by decide +kernel) rfl (Nat.le_of_ble_eq_true rfl) rfl (fun p e s m args below meth c C hr hlk => ?_)
  have hf := F_X4_become.eq_1 kd bd yr pnt slt drt nwt kdt bdt yrt
  refine z_aload_n C dX4_become_0 rfl 1 rfl ?_
  refine z_get (T := TX4) (v := .ref a1t) C i_X4_become_4 4 rfl rfl 0 (by decide) m_X4_become_1 rfl rfl dX4_become_1 ?_
  refine z_iconst (v := (0 : Int32)) C dX4_become_4 (by decide) ?_
  refine z_aload_n C dX4_become_5 rfl 0 rfl ?_
  refine z_get (T := TX4) (v := .ref a1) C i_X4_become_4 0 rfl rfl 0 (by decide) m_X4_become_1 rfl rfl dX4_become_6 ?_
  refine z_iconst (v := (0 : Int32)) C dX4_become_9 (by decide) ?_
  refine z_bipush (v := (9 : Int32)) C dX4_become_10 (by decide) ?_
  refine z_acopy C [(h4, .inr (4, [.ref a1, .ref a2, .ref a3, .int pn, .int sl, .int dr, .int nw])), (a1, .inl (cI, 9, .inl (va_cpy kdt kd (0 : Int32).toNatClampNeg (0 : Int32).toNatClampNeg (9 : Int32).toNatClampNeg))), (a2, .inl (cI, 9, .inl bd)), (a3, .inl (cI, 9, .inl yr)), (h4t, .inr (4, [.ref a1t, .ref a2t, .ref a3t, .int pnt, .int slt, .int drt, .int nwt])), (a1t, .inl (cI, 9, .inl kdt)), (a2t, .inl (cI, 9, .inl bdt)), (a3t, .inl (cI, 9, .inl yrt))] m_X4_become_2 m_X4_become_3 m_X4_become_4 m_X4_become_5 5 1 rfl rfl (by decide) (by decide) (by decide) (by decide) (by decide) (by decide) (by decide) dX4_become_12 rfl ?_
  refine z_aload_n C dX4_become_15 rfl 1 rfl ?_
  refine z_get (T := TX4) (v := .ref a2t) C i_X4_become_4 4 rfl rfl 1 (by decide) m_X4_become_6 rfl rfl dX4_become_16 ?_
  refine z_iconst (v := (0 : Int32)) C dX4_become_19 (by decide) ?_
  refine z_aload_n C dX4_become_20 rfl 0 rfl ?_
  refine z_get (T := TX4) (v := .ref a2) C i_X4_become_4 0 rfl rfl 1 (by decide) m_X4_become_6 rfl rfl dX4_become_21 ?_
  refine z_iconst (v := (0 : Int32)) C dX4_become_24 (by decide) ?_
  refine z_bipush (v := (9 : Int32)) C dX4_become_25 (by decide) ?_
  refine z_acopy C [(h4, .inr (4, [.ref a1, .ref a2, .ref a3, .int pn, .int sl, .int dr, .int nw])), (a1, .inl (cI, 9, .inl (va_cpy kdt kd (0 : Int32).toNatClampNeg (0 : Int32).toNatClampNeg (9 : Int32).toNatClampNeg))), (a2, .inl (cI, 9, .inl (va_cpy bdt bd (0 : Int32).toNatClampNeg (0 : Int32).toNatClampNeg (9 : Int32).toNatClampNeg))), (a3, .inl (cI, 9, .inl yr)), (h4t, .inr (4, [.ref a1t, .ref a2t, .ref a3t, .int pnt, .int slt, .int drt, .int nwt])), (a1t, .inl (cI, 9, .inl kdt)), (a2t, .inl (cI, 9, .inl bdt)), (a3t, .inl (cI, 9, .inl yrt))] m_X4_become_2 m_X4_become_3 m_X4_become_4 m_X4_become_5 6 2 rfl rfl (by decide) (by decide) (by decide) (by decide) (by decide) (by decide) (by decide) dX4_become_27 rfl ?_
  refine z_aload_n C dX4_become_30 rfl 1 rfl ?_
  refine z_get (T := TX4) (v := .ref a3t) C i_X4_become_4 4 rfl rfl 2 (by decide) m_X4_become_7 rfl rfl dX4_become_31 ?_
  refine z_iconst (v := (0 : Int32)) C dX4_become_34 (by decide) ?_
  refine z_aload_n C dX4_become_35 rfl 0 rfl ?_
  refine z_get (T := TX4) (v := .ref a3) C i_X4_become_4 0 rfl rfl 2 (by decide) m_X4_become_7 rfl rfl dX4_become_36 ?_
  refine z_iconst (v := (0 : Int32)) C dX4_become_39 (by decide) ?_
  refine z_bipush (v := (9 : Int32)) C dX4_become_40 (by decide) ?_
  refine z_acopy C [(h4, .inr (4, [.ref a1, .ref a2, .ref a3, .int pn, .int sl, .int dr, .int nw])), (a1, .inl (cI, 9, .inl (va_cpy kdt kd (0 : Int32).toNatClampNeg (0 : Int32).toNatClampNeg (9 : Int32).toNatClampNeg))), (a2, .inl (cI, 9, .inl (va_cpy bdt bd (0 : Int32).toNatClampNeg (0 : Int32).toNatClampNeg (9 : Int32).toNatClampNeg))), (a3, .inl (cI, 9, .inl (va_cpy yrt yr (0 : Int32).toNatClampNeg (0 : Int32).toNatClampNeg (9 : Int32).toNatClampNeg))), (h4t, .inr (4, [.ref a1t, .ref a2t, .ref a3t, .int pnt, .int slt, .int drt, .int nwt])), (a1t, .inl (cI, 9, .inl kdt)), (a2t, .inl (cI, 9, .inl bdt)), (a3t, .inl (cI, 9, .inl yrt))] m_X4_become_2 m_X4_become_3 m_X4_become_4 m_X4_become_5 7 3 rfl rfl (by decide) (by decide) (by decide) (by decide) (by decide) (by decide) (by decide) dX4_become_42 rfl ?_
  refine z_aload_n C dX4_become_45 rfl 0 rfl ?_
  refine z_aload_n C dX4_become_46 rfl 1 rfl ?_
  refine z_get (T := TX4) (v := .int pnt) C i_X4_become_4 4 rfl rfl 3 (by decide) m_X4_become_8 rfl rfl dX4_become_47 ?_
  refine z_put (T := TX4) (ty := .int) C [(h4, .inr (4, [.ref a1, .ref a2, .ref a3, .int pnt, .int sl, .int dr, .int nw])), (a1, .inl (cI, 9, .inl (va_cpy kdt kd (0 : Int32).toNatClampNeg (0 : Int32).toNatClampNeg (9 : Int32).toNatClampNeg))), (a2, .inl (cI, 9, .inl (va_cpy bdt bd (0 : Int32).toNatClampNeg (0 : Int32).toNatClampNeg (9 : Int32).toNatClampNeg))), (a3, .inl (cI, 9, .inl (va_cpy yrt yr (0 : Int32).toNatClampNeg (0 : Int32).toNatClampNeg (9 : Int32).toNatClampNeg))), (h4t, .inr (4, [.ref a1t, .ref a2t, .ref a3t, .int pnt, .int slt, .int drt, .int nwt])), (a1t, .inl (cI, 9, .inl kdt)), (a2t, .inl (cI, 9, .inl bdt)), (a3t, .inl (cI, 9, .inl yrt))] i_X4_become_4 tyX4 tyX4_ok nmX4 0 rfl rfl 3 (by decide) m_X4_become_8 rfl rfl (by decide +kernel) rfl rfl (Nat.le_of_ble_eq_true rfl) dX4_become_50 rfl ?_
  refine z_aload_n C dX4_become_53 rfl 0 rfl ?_
  refine z_aload_n C dX4_become_54 rfl 1 rfl ?_
  refine z_get (T := TX4) (v := .int slt) C i_X4_become_4 4 rfl rfl 4 (by decide) m_X4_become_9 rfl rfl dX4_become_55 ?_
  refine z_put (T := TX4) (ty := .int) C [(h4, .inr (4, [.ref a1, .ref a2, .ref a3, .int pnt, .int slt, .int dr, .int nw])), (a1, .inl (cI, 9, .inl (va_cpy kdt kd (0 : Int32).toNatClampNeg (0 : Int32).toNatClampNeg (9 : Int32).toNatClampNeg))), (a2, .inl (cI, 9, .inl (va_cpy bdt bd (0 : Int32).toNatClampNeg (0 : Int32).toNatClampNeg (9 : Int32).toNatClampNeg))), (a3, .inl (cI, 9, .inl (va_cpy yrt yr (0 : Int32).toNatClampNeg (0 : Int32).toNatClampNeg (9 : Int32).toNatClampNeg))), (h4t, .inr (4, [.ref a1t, .ref a2t, .ref a3t, .int pnt, .int slt, .int drt, .int nwt])), (a1t, .inl (cI, 9, .inl kdt)), (a2t, .inl (cI, 9, .inl bdt)), (a3t, .inl (cI, 9, .inl yrt))] i_X4_become_4 tyX4 tyX4_ok nmX4 0 rfl rfl 4 (by decide) m_X4_become_9 rfl rfl (by decide +kernel) rfl rfl (Nat.le_of_ble_eq_true rfl) dX4_become_58 rfl ?_
  refine z_aload_n C dX4_become_61 rfl 0 rfl ?_
  refine z_aload_n C dX4_become_62 rfl 1 rfl ?_
  refine z_get (T := TX4) (v := .int drt) C i_X4_become_4 4 rfl rfl 5 (by decide) m_X4_become_10 rfl rfl dX4_become_63 ?_
  refine z_put (T := TX4) (ty := .int) C [(h4, .inr (4, [.ref a1, .ref a2, .ref a3, .int pnt, .int slt, .int drt, .int nw])), (a1, .inl (cI, 9, .inl (va_cpy kdt kd (0 : Int32).toNatClampNeg (0 : Int32).toNatClampNeg (9 : Int32).toNatClampNeg))), (a2, .inl (cI, 9, .inl (va_cpy bdt bd (0 : Int32).toNatClampNeg (0 : Int32).toNatClampNeg (9 : Int32).toNatClampNeg))), (a3, .inl (cI, 9, .inl (va_cpy yrt yr (0 : Int32).toNatClampNeg (0 : Int32).toNatClampNeg (9 : Int32).toNatClampNeg))), (h4t, .inr (4, [.ref a1t, .ref a2t, .ref a3t, .int pnt, .int slt, .int drt, .int nwt])), (a1t, .inl (cI, 9, .inl kdt)), (a2t, .inl (cI, 9, .inl bdt)), (a3t, .inl (cI, 9, .inl yrt))] i_X4_become_4 tyX4 tyX4_ok nmX4 0 rfl rfl 5 (by decide) m_X4_become_10 rfl rfl (by decide +kernel) rfl rfl (Nat.le_of_ble_eq_true rfl) dX4_become_66 rfl ?_
  refine z_aload_n C dX4_become_69 rfl 0 rfl ?_
  refine z_aload_n C dX4_become_70 rfl 1 rfl ?_
  refine z_get (T := TX4) (v := .int nwt) C i_X4_become_4 4 rfl rfl 6 (by decide) m_X4_become_11 rfl rfl dX4_become_71 ?_
  refine z_put (T := TX4) (ty := .int) C [(h4, .inr (4, [.ref a1, .ref a2, .ref a3, .int pnt, .int slt, .int drt, .int nwt])), (a1, .inl (cI, 9, .inl (va_cpy kdt kd (0 : Int32).toNatClampNeg (0 : Int32).toNatClampNeg (9 : Int32).toNatClampNeg))), (a2, .inl (cI, 9, .inl (va_cpy bdt bd (0 : Int32).toNatClampNeg (0 : Int32).toNatClampNeg (9 : Int32).toNatClampNeg))), (a3, .inl (cI, 9, .inl (va_cpy yrt yr (0 : Int32).toNatClampNeg (0 : Int32).toNatClampNeg (9 : Int32).toNatClampNeg))), (h4t, .inr (4, [.ref a1t, .ref a2t, .ref a3t, .int pnt, .int slt, .int drt, .int nwt])), (a1t, .inl (cI, 9, .inl kdt)), (a2t, .inl (cI, 9, .inl bdt)), (a3t, .inl (cI, 9, .inl yrt))] i_X4_become_4 tyX4 tyX4_ok nmX4 0 rfl rfl 6 (by decide) m_X4_become_11 rfl rfl (by decide +kernel) rfl rfl (Nat.le_of_ble_eq_true rfl) dX4_become_74 rfl ?_
  exact z_vretW C hr hlk (by rw [hf]) dX4_become_77
-- X3_begin
theorem i_X3_begin_3 : ∀ w ∈ u_ws RX3 TX3 3, w ∈ wsX3_begin := by decide +kernel
theorem m_X3_begin_1 : Cond.fieldLink RX3 15 "WishPins$Sheet" "lane" "I" ∈ wsX3_begin := List.mem_of_getElem? (i := 1) rfl
theorem m_X3_begin_2 : Cond.methodLink RX3 19 Lib.Math.min.name ∈ wsX3_begin := List.mem_of_getElem? (i := 2) rfl
theorem m_X3_begin_3 : Cond.static Lib.Math.min.name ∈ wsX3_begin := List.mem_of_getElem? (i := 3) rfl
theorem m_X3_begin_4 : Cond.initialized "java/lang/Math" ∈ wsX3_begin := List.mem_of_getElem? (i := 4) rfl
theorem m_X3_begin_5 : Cond.code Lib.Math.min.name Lib.Math.min.code 2 (some .int) ∈ wsX3_begin := List.mem_of_getElem? (i := 5) rfl
theorem m_X3_begin_6 : Cond.methodLink RX3 25 Lib.Math.max.name ∈ wsX3_begin := List.mem_of_getElem? (i := 6) rfl
theorem m_X3_begin_7 : Cond.static Lib.Math.max.name ∈ wsX3_begin := List.mem_of_getElem? (i := 7) rfl
theorem m_X3_begin_8 : Cond.code Lib.Math.max.name Lib.Math.max.code 2 (some .int) ∈ wsX3_begin := List.mem_of_getElem? (i := 8) rfl
theorem m_X3_begin_9 : Cond.fieldLink RX3 28 "WishPins$Sheet" "length" "I" ∈ wsX3_begin := List.mem_of_getElem? (i := 9) rfl
theorem m_X3_begin_10 : Cond.fieldLink RX3 9 "WishPins$Sheet" "cells" "[I" ∈ wsX3_begin := List.mem_of_getElem? (i := 10) rfl
def F_X3_begin_k21 (la : Int32) (n : Int32) (x3_21 : Int32) (cl_21 : Nat → Int32) : Int32 × Int32 × (Nat → Int32) :=
  (la, (if (0 : Int32) < (if (60 : Int32) < n then (60 : Int32) else n) then (if (60 : Int32) < n then (60 : Int32) else n) else (0 : Int32)), cl_21)
def F_X3_begin_l21 (K_ : Int32 → (Nat → Int32) → Int32 × Int32 × (Nat → Int32)) : Nat → Int32 → (Nat → Int32) → Int32 × Int32 × (Nat → Int32)
  | 0, x3_21, cl_21 => K_ x3_21 cl_21
  | d21 + 1, x3_21, cl_21 => (if (60 : Int32) ≤ x3_21 then (K_ x3_21 cl_21) else (F_X3_begin_l21 K_ d21 (x3_21 + (1 : Int32)) (upd cl_21 x3_21.toNatClampNeg (0 : Int32))))
def F_X3_begin (cl : Nat → Int32) (la : Int32) (n : Int32) : Int32 × Int32 × (Nat → Int32) :=
  (F_X3_begin_l21 (F_X3_begin_k21 la n) 61 (0 : Int32) cl)
set_option maxHeartbeats 4000000 in
set_option maxRecDepth 100000 in
theorem c_X3_begin (l : Launch) (D : va_G) (cI cO : ClassId) (h3 : Nat) (b1 : Nat) (ln : Int32) (lg : Int32) (cl : Nat → Int32) (la : Int32) (n : Int32) : zW l yX3_begin wsX3_begin ({ frames := 1, cells := 0, slots := 0, locals := 21 } : Room) D cI cO [.ref h3, .int la, .int n] [(h3, .inr (3, [.ref b1, .int ln, .int lg])), (b1, .inl (cI, 60, .inl cl))] [(h3, .inr (3, [.ref b1, .int ((F_X3_begin cl la n).1), .int ((F_X3_begin cl la n).2.1)])), (b1, .inl (cI, 60, .inl ((F_X3_begin cl la n).2.2)))] none := by
  refine zW_of (nL := 4) (cc := cX3_begin) (ret := none) (lv := [(0, .ref h3), (1, .int la), (2, .int n)]) (by decide +kernel) rfl (Nat.le_of_ble_eq_true rfl) rfl (fun p e s m args below meth c C hr hlk => ?_)
  have hf := F_X3_begin.eq_1 cl la n
  refine z_aload_n C dX3_begin_0 rfl 0 rfl ?_
  refine z_iload_n C dX3_begin_1 rfl 1 rfl ?_
  refine z_put (T := TX3) (ty := .int) C [(h3, .inr (3, [.ref b1, .int la, .int lg])), (b1, .inl (cI, 60, .inl cl))] i_X3_begin_3 tyX3 tyX3_ok nmX3 0 rfl rfl 1 (by decide) m_X3_begin_1 rfl rfl (by decide +kernel) rfl rfl (Nat.le_of_ble_eq_true rfl) dX3_begin_2 rfl ?_
  refine z_aload_n C dX3_begin_5 rfl 0 rfl ?_
  refine z_iconst (v := (0 : Int32)) C dX3_begin_6 (by decide) ?_
  refine z_iload_n C dX3_begin_7 rfl 2 rfl ?_
  refine z_bipush (v := (60 : Int32)) C dX3_begin_8 (by decide) ?_
  refine z_min C m_X3_begin_2 m_X3_begin_3 m_X3_begin_4 m_X3_begin_5 (by decide) (Nat.le_of_ble_eq_true rfl) (Nat.zero_le _) (Nat.zero_le _) dX3_begin_10 ?_
  refine z_max C m_X3_begin_6 m_X3_begin_7 m_X3_begin_4 m_X3_begin_8 (by decide) (Nat.le_of_ble_eq_true rfl) (Nat.zero_le _) (Nat.zero_le _) dX3_begin_13 ?_
  refine z_put (T := TX3) (ty := .int) C [(h3, .inr (3, [.ref b1, .int la, .int (if (0 : Int32) < (if (60 : Int32) < n then (60 : Int32) else n) then (if (60 : Int32) < n then (60 : Int32) else n) else (0 : Int32))])), (b1, .inl (cI, 60, .inl cl))] i_X3_begin_3 tyX3 tyX3_ok nmX3 0 rfl rfl 2 (by decide) m_X3_begin_9 rfl rfl (by decide +kernel) rfl rfl (Nat.le_of_ble_eq_true rfl) dX3_begin_16 rfl ?_
  refine z_iconst (v := (0 : Int32)) C dX3_begin_19 (by decide) ?_
  refine z_istore_n C [(0, .ref h3), (1, .int la), (2, .int n), (3, .int (0 : Int32))] dX3_begin_20 rfl (by decide) [1, 2, 3, 0] rfl ?_
  have X21 : ∀ (x3_21 : Int32) (cl_21 : Nat → Int32), F_X3_begin cl la n = (F_X3_begin_k21 la n) x3_21 cl_21 → zG p l e ({ frames := 1, cells := 0, slots := 0, locals := 21 } : Room) s m args below meth c D (zA [(h3, .inr (3, [.ref b1, .int ln, .int lg])), (b1, .inl (cI, 60, .inl cl))]) (zXw (zA [(h3, .inr (3, [.ref b1, .int ln, .int lg])), (b1, .inl (cI, 60, .inl cl))]) s.heap) 4 0 0 (MQ below (zQw D [(h3, .inr (3, [.ref b1, .int ((F_X3_begin cl la n).1), .int ((F_X3_begin cl la n).2.1)])), (b1, .inl (cI, 60, .inl ((F_X3_begin cl la n).2.2)))] (zA [(h3, .inr (3, [.ref b1, .int ln, .int lg])), (b1, .inl (cI, 60, .inl cl))]) none) args s 0 0 (zA [(h3, .inr (3, [.ref b1, .int ln, .int lg])), (b1, .inl (cI, 60, .inl cl))])) 40 [(0, .ref h3), (1, .int la), (2, .int n), (3, .int x3_21)] [] [(h3, .inr (3, [.ref b1, .int la, .int (if (0 : Int32) < (if (60 : Int32) < n then (60 : Int32) else n) then (if (60 : Int32) < n then (60 : Int32) else n) else (0 : Int32))])), (b1, .inl (cI, 60, .inl cl_21))] := by
    intro x3_21 cl_21 hf
    rw [F_X3_begin_k21] at hf
    skip
    exact z_vretW C hr hlk (by rw [hf]) dX3_begin_40
  have L21 : ∀ (d21 : Nat) (j : Nat) (x3_21 : Int32) (cl_21 : Nat → Int32) (e3 : x3_21 = nI j) (hj : j ≤ 60) (hd : 60 < j + d21), F_X3_begin cl la n = F_X3_begin_l21 (F_X3_begin_k21 la n) d21 x3_21 cl_21 → zG p l e ({ frames := 1, cells := 0, slots := 0, locals := 21 } : Room) s m args below meth c D (zA [(h3, .inr (3, [.ref b1, .int ln, .int lg])), (b1, .inl (cI, 60, .inl cl))]) (zXw (zA [(h3, .inr (3, [.ref b1, .int ln, .int lg])), (b1, .inl (cI, 60, .inl cl))]) s.heap) 4 0 0 (MQ below (zQw D [(h3, .inr (3, [.ref b1, .int ((F_X3_begin cl la n).1), .int ((F_X3_begin cl la n).2.1)])), (b1, .inl (cI, 60, .inl ((F_X3_begin cl la n).2.2)))] (zA [(h3, .inr (3, [.ref b1, .int ln, .int lg])), (b1, .inl (cI, 60, .inl cl))]) none) args s 0 0 (zA [(h3, .inr (3, [.ref b1, .int ln, .int lg])), (b1, .inl (cI, 60, .inl cl))])) 21 [(0, .ref h3), (1, .int la), (2, .int n), (3, .int x3_21)] [] [(h3, .inr (3, [.ref b1, .int la, .int (if (0 : Int32) < (if (60 : Int32) < n then (60 : Int32) else n) then (if (60 : Int32) < n then (60 : Int32) else n) else (0 : Int32))])), (b1, .inl (cI, 60, .inl cl_21))] := by
    intro d21
    induction d21 with
    | zero =>
      intro j x3_21 cl_21 e3 hj hd hf
      exfalso; omega
    | succ d21 ih21 =>
      intro j x3_21 cl_21 e3 hj hd hf
      rw [F_X3_begin_l21] at hf
      skip
      refine z_iload_n C dX3_begin_21 rfl 3 rfl ?_
      refine z_bipush (v := (60 : Int32)) C dX3_begin_22 (by decide) ?_
      refine z_icmp_ge (tgt := 40) C dX3_begin_24 (by decide) (fun c24 => ?_) (fun c24 => ?_)
      · rw [if_pos c24] at hf
        exact X21 x3_21 cl_21  hf
      · rw [if_neg c24] at hf
        refine z_aload_n C dX3_begin_27 rfl 0 rfl ?_
        refine z_get (T := TX3) (v := .ref b1) C i_X3_begin_3 0 rfl rfl 0 (by decide) m_X3_begin_10 rfl rfl dX3_begin_28 ?_
        refine z_iload_n C dX3_begin_31 rfl 3 rfl ?_
        refine z_iconst (v := (0 : Int32)) C dX3_begin_32 (by decide) ?_
        refine z_ast C [(h3, .inr (3, [.ref b1, .int la, .int (if (0 : Int32) < (if (60 : Int32) < n then (60 : Int32) else n) then (if (60 : Int32) < n then (60 : Int32) else n) else (0 : Int32))])), (b1, .inl (cI, 60, .inl (upd cl_21 x3_21.toNatClampNeg (0 : Int32))))] 1 rfl (z_ixN e3 (z_jlt e3 (by omega) (by decide) c24) (by decide)) dX3_begin_33 rfl ?_
        refine z_iinc (v := (x3_21 + (1 : Int32))) C [(0, .ref h3), (1, .int la), (2, .int n), (3, .int (x3_21 + (1 : Int32)))] dX3_begin_34 3 rfl (by rfl) (by decide) [1, 2, 3, 0] rfl ?_
        refine z_goto (tgt := 21) C dX3_begin_37 (by decide) ?_
        exact ih21 (j + 1) (x3_21 + (1 : Int32)) (upd cl_21 x3_21.toNatClampNeg (0 : Int32)) (by rw [e3]; exact nI_1 j) (by have := z_jlt (n := 60) e3 (by omega) (by decide) c24; omega) (by omega) hf
  exact L21 61 0 (0 : Int32) cl nI_0.symm (Nat.zero_le _) (by omega) hf
-- X3_end
theorem i_X3_end_3 : ∀ w ∈ u_ws RX3 TX3 3, w ∈ wsX3_end := by decide +kernel
theorem m_X3_end_1 : Cond.fieldLink RX3 15 "WishPins$Sheet" "lane" "I" ∈ wsX3_end := List.mem_of_getElem? (i := 1) rfl
theorem m_X3_end_2 : Cond.fieldLink RX3 28 "WishPins$Sheet" "length" "I" ∈ wsX3_end := List.mem_of_getElem? (i := 2) rfl
def F_X3_end : Int32 × Int32 :=
  ((-1 : Int32), (0 : Int32))
set_option maxHeartbeats 4000000 in
set_option maxRecDepth 100000 in
theorem c_X3_end (l : Launch) (D : va_G) (cI cO : ClassId) (h3 : Nat) (b1 : Nat) (ln : Int32) (lg : Int32) : zW l yX3_end wsX3_end ({ frames := 0, cells := 0, slots := 0, locals := 0 } : Room) D cI cO [.ref h3] [(h3, .inr (3, [.ref b1, .int ln, .int lg]))] [(h3, .inr (3, [.ref b1, .int ((F_X3_end).1), .int ((F_X3_end).2)]))] none := by
  refine zW_of (nL := 1) (cc := cX3_end) (ret := none) (lv := [(0, .ref h3)]) (by decide +kernel) rfl (Nat.le_of_ble_eq_true rfl) rfl (fun p e s m args below meth c C hr hlk => ?_)
  have hf := F_X3_end.eq_1
  refine z_aload_n C dX3_end_0 rfl 0 rfl ?_
  refine z_iconst (v := (-1 : Int32)) C dX3_end_1 (by decide) ?_
  refine z_put (T := TX3) (ty := .int) C [(h3, .inr (3, [.ref b1, .int (-1 : Int32), .int lg]))] i_X3_end_3 tyX3 tyX3_ok nmX3 0 rfl rfl 1 (by decide) m_X3_end_1 rfl rfl (by decide +kernel) rfl rfl (Nat.le_of_ble_eq_true rfl) dX3_end_2 rfl ?_
  refine z_aload_n C dX3_end_5 rfl 0 rfl ?_
  refine z_iconst (v := (0 : Int32)) C dX3_end_6 (by decide) ?_
  refine z_put (T := TX3) (ty := .int) C [(h3, .inr (3, [.ref b1, .int (-1 : Int32), .int (0 : Int32)]))] i_X3_end_3 tyX3 tyX3_ok nmX3 0 rfl rfl 2 (by decide) m_X3_end_2 rfl rfl (by decide +kernel) rfl rfl (Nat.le_of_ble_eq_true rfl) dX3_end_7 rfl ?_
  exact z_vretW C hr hlk (by rw [hf]) dX3_end_10
-- X3_hasRow
theorem i_X3_hasRow_3 : ∀ w ∈ u_ws RX3 TX3 3, w ∈ wsX3_hasRow := by decide +kernel
theorem m_X3_hasRow_1 : Cond.fieldLink RX3 15 "WishPins$Sheet" "lane" "I" ∈ wsX3_hasRow := List.mem_of_getElem? (i := 1) rfl
def F_X3_hasRow (ln : Int32) : Int32 :=
  (if ln = (-1 : Int32) then (0 : Int32) else (1 : Int32))
set_option maxHeartbeats 4000000 in
set_option maxRecDepth 100000 in
theorem c_X3_hasRow (l : Launch) (D : va_G) (cI cO : ClassId) (h3 : Nat) (b1 : Nat) (ln : Int32) (lg : Int32) : zR l yX3_hasRow wsX3_hasRow ({ frames := 0, cells := 0, slots := 0, locals := 0 } : Room) D cI cO [.ref h3] [(h3, .inr (3, [.ref b1, .int ln, .int lg]))] (some (.int (F_X3_hasRow ln))) := by
  refine zR_of (nL := 1) (cc := cX3_hasRow) (ret := some .boolean) (lv := [(0, .ref h3)]) (by decide +kernel) rfl (Nat.le_of_ble_eq_true rfl) rfl (fun p e s m args below meth c C hr hlk => ?_)
  have hf := F_X3_hasRow.eq_1 ln
  refine z_aload_n C dX3_hasRow_0 rfl 0 rfl ?_
  refine z_get (T := TX3) (v := .int ln) C i_X3_hasRow_3 0 rfl rfl 1 (by decide) m_X3_hasRow_1 rfl rfl dX3_hasRow_1 ?_
  refine z_iconst (v := (-1 : Int32)) C dX3_hasRow_4 (by decide) ?_
  refine z_icmp_eq (tgt := 12) C dX3_hasRow_5 (by decide) (fun c5 => ?_) (fun c5 => ?_)
  · rw [if_pos c5] at hf
    refine z_iconst (v := (0 : Int32)) C dX3_hasRow_12 (by decide) ?_
    exact z_zretR C hr hlk rfl (by rw [hf]) dX3_hasRow_13
  · rw [if_neg c5] at hf
    refine z_iconst (v := (1 : Int32)) C dX3_hasRow_8 (by decide) ?_
    refine z_goto (tgt := 13) C dX3_hasRow_9 (by decide) ?_
    exact z_zretR C hr hlk rfl (by rw [hf]) dX3_hasRow_13
-- X3_hasCells
theorem i_X3_hasCells_3 : ∀ w ∈ u_ws RX3 TX3 3, w ∈ wsX3_hasCells := by decide +kernel
theorem m_X3_hasCells_1 : Cond.fieldLink RX3 28 "WishPins$Sheet" "length" "I" ∈ wsX3_hasCells := List.mem_of_getElem? (i := 1) rfl
def F_X3_hasCells (lg : Int32) (i : Int32) (n : Int32) : Int32 :=
  (if i < 0 then (0 : Int32) else (if lg < i then (0 : Int32) else (if n < 0 then (0 : Int32) else (if (lg - i) < n then (0 : Int32) else (1 : Int32)))))
set_option maxHeartbeats 4000000 in
set_option maxRecDepth 100000 in
theorem c_X3_hasCells (l : Launch) (D : va_G) (cI cO : ClassId) (h3 : Nat) (b1 : Nat) (ln : Int32) (lg : Int32) (i : Int32) (n : Int32) : zR l yX3_hasCells wsX3_hasCells ({ frames := 0, cells := 0, slots := 0, locals := 0 } : Room) D cI cO [.ref h3, .int i, .int n] [(h3, .inr (3, [.ref b1, .int ln, .int lg]))] (some (.int (F_X3_hasCells lg i n))) := by
  refine zR_of (nL := 3) (cc := cX3_hasCells) (ret := some .boolean) (lv := [(0, .ref h3), (1, .int i), (2, .int n)]) (by decide +kernel) rfl (Nat.le_of_ble_eq_true rfl) rfl (fun p e s m args below meth c C hr hlk => ?_)
  have hf := F_X3_hasCells.eq_1 lg i n
  refine z_iload_n C dX3_hasCells_0 rfl 1 rfl ?_
  refine z_if_lt (tgt := 30) C dX3_hasCells_1 (by decide) (fun c1 => ?_) (fun c1 => ?_)
  · rw [if_pos c1] at hf
    refine z_iconst (v := (0 : Int32)) C dX3_hasCells_30 (by decide) ?_
    exact z_zretR C hr hlk rfl (by rw [hf]) dX3_hasCells_31
  · rw [if_neg c1] at hf
    refine z_iload_n C dX3_hasCells_4 rfl 1 rfl ?_
    refine z_aload_n C dX3_hasCells_5 rfl 0 rfl ?_
    refine z_get (T := TX3) (v := .int lg) C i_X3_hasCells_3 0 rfl rfl 2 (by decide) m_X3_hasCells_1 rfl rfl dX3_hasCells_6 ?_
    refine z_icmp_gt (tgt := 30) C dX3_hasCells_9 (by decide) (fun c9 => ?_) (fun c9 => ?_)
    · rw [if_pos c9] at hf
      refine z_iconst (v := (0 : Int32)) C dX3_hasCells_30 (by decide) ?_
      exact z_zretR C hr hlk rfl (by rw [hf]) dX3_hasCells_31
    · rw [if_neg c9] at hf
      refine z_iload_n C dX3_hasCells_12 rfl 2 rfl ?_
      refine z_if_lt (tgt := 30) C dX3_hasCells_13 (by decide) (fun c13 => ?_) (fun c13 => ?_)
      · rw [if_pos c13] at hf
        refine z_iconst (v := (0 : Int32)) C dX3_hasCells_30 (by decide) ?_
        exact z_zretR C hr hlk rfl (by rw [hf]) dX3_hasCells_31
      · rw [if_neg c13] at hf
        refine z_iload_n C dX3_hasCells_16 rfl 2 rfl ?_
        refine z_aload_n C dX3_hasCells_17 rfl 0 rfl ?_
        refine z_get (T := TX3) (v := .int lg) C i_X3_hasCells_3 0 rfl rfl 2 (by decide) m_X3_hasCells_1 rfl rfl dX3_hasCells_18 ?_
        refine z_iload_n C dX3_hasCells_21 rfl 1 rfl ?_
        refine z_isub C dX3_hasCells_22 ?_
        refine z_icmp_gt (tgt := 30) C dX3_hasCells_23 (by decide) (fun c23 => ?_) (fun c23 => ?_)
        · rw [if_pos c23] at hf
          refine z_iconst (v := (0 : Int32)) C dX3_hasCells_30 (by decide) ?_
          exact z_zretR C hr hlk rfl (by rw [hf]) dX3_hasCells_31
        · rw [if_neg c23] at hf
          refine z_iconst (v := (1 : Int32)) C dX3_hasCells_26 (by decide) ?_
          refine z_goto (tgt := 31) C dX3_hasCells_27 (by decide) ?_
          exact z_zretR C hr hlk rfl (by rw [hf]) dX3_hasCells_31
-- X3_faultAs
theorem i_X3_faultAs_3 : ∀ w ∈ u_ws RX3 TX3 3, w ∈ wsX3_faultAs := by decide +kernel
theorem m_X3_faultAs_1 : Cond.fieldLink RX3 15 "WishPins$Sheet" "lane" "I" ∈ wsX3_faultAs := List.mem_of_getElem? (i := 1) rfl
def F_X3_faultAs (ln : Int32) (la : Int32) : Int32 :=
  (if (F_X3_hasRow ln) = 0 then (1 : Int32) else (if ln = la then (0 : Int32) else (2 : Int32)))
set_option maxHeartbeats 4000000 in
set_option maxRecDepth 100000 in
theorem c_X3_faultAs (l : Launch) (D : va_G) (cI cO : ClassId) (h3 : Nat) (b1 : Nat) (ln : Int32) (lg : Int32) (la : Int32) : zR l yX3_faultAs wsX3_faultAs ({ frames := 1, cells := 0, slots := 0, locals := 20 } : Room) D cI cO [.ref h3, .int la] [(h3, .inr (3, [.ref b1, .int ln, .int lg]))] (some (.int (F_X3_faultAs ln la))) := by
  refine zR_of (nL := 2) (cc := cX3_faultAs) (ret := some .int) (lv := [(0, .ref h3), (1, .int la)]) (by decide +kernel) rfl (Nat.le_of_ble_eq_true rfl) rfl (fun p e s m args below meth c C hr hlk => ?_)
  have hf := F_X3_faultAs.eq_1 ln la
  refine z_aload_n C dX3_faultAs_0 rfl 0 rfl ?_
  refine z_cVR (As := []) C (c_X3_hasRow l D cI cO h3 b1 ln lg) (cwV 0 C.2.2.2.2.1 gX3_faultAs_X3_hasRow rfl rfl rfl hdV_X3_hasRow ⟨Nat.le_of_ble_eq_true rfl, Nat.le_of_ble_eq_true rfl⟩) [0] rfl rfl 0 rfl rfl rfl _ rfl (Nat.le_of_ble_eq_true rfl) ⟨Nat.zero_le _, Nat.zero_le _⟩ dX3_faultAs_1 ?_
  generalize hu1 : (F_X3_hasRow ln) = u1 at hf ⊢
  refine z_if_ne (tgt := 9) C dX3_faultAs_4 (by decide) (fun c4 => ?_) (fun c4 => ?_)
  · rw [if_neg c4] at hf
    have b4 := c4
    rw [← hu1] at c4
    refine z_aload_n C dX3_faultAs_9 rfl 0 rfl ?_
    refine z_get (T := TX3) (v := .int ln) C i_X3_faultAs_3 0 rfl rfl 1 (by decide) m_X3_faultAs_1 rfl rfl dX3_faultAs_10 ?_
    refine z_iload_n C dX3_faultAs_13 rfl 1 rfl ?_
    refine z_icmp_ne (tgt := 21) C dX3_faultAs_14 (by decide) (fun c14 => ?_) (fun c14 => ?_)
    · rw [if_neg c14] at hf
      refine z_iconst (v := (2 : Int32)) C dX3_faultAs_21 (by decide) ?_
      exact z_iretR C hr hlk (by rw [hf]) dX3_faultAs_22
    · rw [if_pos c14] at hf
      refine z_iconst (v := (0 : Int32)) C dX3_faultAs_17 (by decide) ?_
      refine z_goto (tgt := 22) C dX3_faultAs_18 (by decide) ?_
      exact z_iretR C hr hlk (by rw [hf]) dX3_faultAs_22
  · rw [if_pos c4] at hf
    have b4 := c4
    rw [← hu1] at c4
    refine z_iconst (v := (1 : Int32)) C dX3_faultAs_7 (by decide) ?_
    exact z_iretR C hr hlk (by rw [hf]) dX3_faultAs_8
-- X3_faultOfCells
def F_X3_faultOfCells (ln : Int32) (lg : Int32) (la : Int32) (i : Int32) (n : Int32) : Int32 :=
  (if (F_X3_faultAs ln la) = 0 then (if (F_X3_hasCells lg i n) = 0 then (3 : Int32) else (F_X3_faultAs ln la)) else (F_X3_faultAs ln la))
set_option maxHeartbeats 4000000 in
set_option maxRecDepth 100000 in
theorem c_X3_faultOfCells (l : Launch) (D : va_G) (cI cO : ClassId) (h3 : Nat) (b1 : Nat) (ln : Int32) (lg : Int32) (la : Int32) (i : Int32) (n : Int32) : zR l yX3_faultOfCells wsX3_faultOfCells ({ frames := 2, cells := 0, slots := 0, locals := 41 } : Room) D cI cO [.ref h3, .int la, .int i, .int n] [(h3, .inr (3, [.ref b1, .int ln, .int lg]))] (some (.int (F_X3_faultOfCells ln lg la i n))) := by
  refine zR_of (nL := 5) (cc := cX3_faultOfCells) (ret := some .int) (lv := [(0, .ref h3), (1, .int la), (2, .int i), (3, .int n)]) (by decide +kernel) rfl (Nat.le_of_ble_eq_true rfl) rfl (fun p e s m args below meth c C hr hlk => ?_)
  have hf := F_X3_faultOfCells.eq_1 ln lg la i n
  refine z_aload_n C dX3_faultOfCells_0 rfl 0 rfl ?_
  refine z_iload_n C dX3_faultOfCells_1 rfl 1 rfl ?_
  refine z_cVR (As := [.int la]) C (c_X3_faultAs l D cI cO h3 b1 ln lg la) (cwV 1 C.2.2.2.2.1 gX3_faultOfCells_X3_faultAs rfl rfl rfl hdV_X3_faultAs ⟨Nat.le_of_ble_eq_true rfl, Nat.le_of_ble_eq_true rfl⟩) [0] rfl rfl 0 rfl rfl rfl _ rfl (Nat.le_of_ble_eq_true rfl) ⟨Nat.zero_le _, Nat.zero_le _⟩ dX3_faultOfCells_2 ?_
  generalize hu2 : (F_X3_faultAs ln la) = u2 at hf ⊢
  refine z_istore C [(0, .ref h3), (1, .int la), (2, .int i), (3, .int n), (4, .int u2)] dX3_faultOfCells_5 (by decide) [1, 2, 3, 4, 0] rfl ?_
  refine z_iload C dX3_faultOfCells_7 4 rfl ?_
  refine z_if_ne (tgt := 24) C dX3_faultOfCells_9 (by decide) (fun c9 => ?_) (fun c9 => ?_)
  · rw [if_neg c9] at hf
    have b9 := c9
    rw [← hu2] at c9
    refine z_iload C dX3_faultOfCells_24 4 rfl ?_
    exact z_iretR C hr hlk (by rw [hf]) dX3_faultOfCells_26
  · rw [if_pos c9] at hf
    have b9 := c9
    rw [← hu2] at c9
    refine z_aload_n C dX3_faultOfCells_12 rfl 0 rfl ?_
    refine z_iload_n C dX3_faultOfCells_13 rfl 2 rfl ?_
    refine z_iload_n C dX3_faultOfCells_14 rfl 3 rfl ?_
    refine z_cVR (As := [.int i, .int n]) C (c_X3_hasCells l D cI cO h3 b1 ln lg i n) (cwV 2 C.2.2.2.2.1 gX3_faultOfCells_X3_hasCells rfl rfl rfl hdV_X3_hasCells ⟨Nat.le_of_ble_eq_true rfl, Nat.le_of_ble_eq_true rfl⟩) [0] rfl rfl 0 rfl rfl rfl _ rfl (Nat.le_of_ble_eq_true rfl) ⟨Nat.zero_le _, Nat.zero_le _⟩ dX3_faultOfCells_15 ?_
    generalize hu15 : (F_X3_hasCells lg i n) = u15 at hf ⊢
    refine z_if_ne (tgt := 24) C dX3_faultOfCells_18 (by decide) (fun c18 => ?_) (fun c18 => ?_)
    · rw [if_neg c18] at hf
      have b18 := c18
      rw [← hu15] at c18
      refine z_iload C dX3_faultOfCells_24 4 rfl ?_
      exact z_iretR C hr hlk (by rw [hf]) dX3_faultOfCells_26
    · rw [if_pos c18] at hf
      have b18 := c18
      rw [← hu15] at c18
      refine z_iconst (v := (3 : Int32)) C dX3_faultOfCells_21 (by decide) ?_
      refine z_istore C [(0, .ref h3), (1, .int la), (2, .int i), (3, .int n), (4, .int (3 : Int32))] dX3_faultOfCells_22 (by decide) [1, 2, 3, 4, 0] rfl ?_
      refine z_iload C dX3_faultOfCells_24 4 rfl ?_
      exact z_iretR C hr hlk (by rw [hf]) dX3_faultOfCells_26
theorem hasCells_in {lg i n : Int32} (hlg : lg ≤ 60) (h : ¬ F_X3_hasCells lg i n = 0) : ∃ a b : Nat, i = nI a ∧ n = nI b ∧ a + b ≤ 60 ∧ ((a + b : Nat) : Int) ≤ lg.toInt := by
  rw [F_X3_hasCells] at h
  by_cases c1 : i < 0
  · rw [if_pos c1] at h; exact absurd rfl h
  rw [if_neg c1] at h
  by_cases c2 : lg < i
  · rw [if_pos c2] at h; exact absurd rfl h
  rw [if_neg c2] at h
  by_cases c3 : n < 0
  · rw [if_pos c3] at h; exact absurd rfl h
  rw [if_neg c3] at h
  by_cases c4 : lg - i < n
  · rw [if_pos c4] at h; exact absurd rfl h
  obtain ⟨a, ha, rfl⟩ := nI_of c1
  obtain ⟨b, hb, rfl⟩ := nI_of c3
  have z : (0 : Int32).toInt = 0 := by decide
  have e60 : (60 : Int32).toInt = 60 := by decide
  have h0 := Int32.le_iff_toInt_le.mp hlg
  have h2 : ¬ lg.toInt < (nI a).toInt := fun q => c2 (Int32.lt_iff_toInt_lt.mpr q)
  have h4 : ¬ (lg - nI a).toInt < (nI b).toInt := fun q => c4 (Int32.lt_iff_toInt_lt.mpr q)
  rw [nI_toInt ha] at h2
  have e : (lg - nI a).toInt = lg.toInt - a := by
    rw [Int32.toInt_sub, nI_toInt ha]
    apply Int.bmod_eq_of_le <;> omega
  rw [e, nI_toInt hb] at h4
  exact ⟨a, b, rfl, rfl, by omega, by omega⟩
theorem hasCells_ix {lg i : Int32} (hlg : lg ≤ 60) (h : ¬ F_X3_hasCells lg i 1 = 0) : vp_in i 60 := by
  obtain ⟨a, b, rfl, e, h1, -⟩ := hasCells_in hlg h
  have : b = 1 := by
    have e1 : (1 : Int32).toInt = 1 := by decide
    have := congrArg Int32.toInt e
    rw [e1, nI_toInt (by omega)] at this
    omega
  exact vp_in_nI (by omega) (by omega)
-- X3_at
theorem i_X3_at_3 : ∀ w ∈ u_ws RX3 TX3 3, w ∈ wsX3_at := by decide +kernel
theorem m_X3_at_1 : Cond.fieldLink RX3 9 "WishPins$Sheet" "cells" "[I" ∈ wsX3_at := List.mem_of_getElem? (i := 1) rfl
def F_X3_at (lg : Int32) (cl : Nat → Int32) (i : Int32) : Int32 :=
  (if (F_X3_hasCells lg i (1 : Int32)) = 0 then (0 : Int32) else (cl i.toNatClampNeg))
set_option maxHeartbeats 4000000 in
set_option maxRecDepth 100000 in
theorem c_X3_at (l : Launch) (D : va_G) (cI cO : ClassId) (h3 : Nat) (b1 : Nat) (ln : Int32) (lg : Int32) (cl : Nat → Int32) (i : Int32) (hlg : lg ≤ 60) : zR l yX3_at wsX3_at ({ frames := 1, cells := 0, slots := 0, locals := 22 } : Room) D cI cO [.ref h3, .int i] [(h3, .inr (3, [.ref b1, .int ln, .int lg])), (b1, .inl (cI, 60, .inl cl))] (some (.int (F_X3_at lg cl i))) := by
  refine zR_of (nL := 2) (cc := cX3_at) (ret := some .int) (lv := [(0, .ref h3), (1, .int i)]) (by decide +kernel) rfl (Nat.le_of_ble_eq_true rfl) rfl (fun p e s m args below meth c C hr hlk => ?_)
  have hf := F_X3_at.eq_1 lg cl i
  refine z_aload_n C dX3_at_0 rfl 0 rfl ?_
  refine z_iload_n C dX3_at_1 rfl 1 rfl ?_
  refine z_iconst (v := (1 : Int32)) C dX3_at_2 (by decide) ?_
  refine z_cVR (As := [.int i, .int (1 : Int32)]) C (c_X3_hasCells l D cI cO h3 b1 ln lg i (1 : Int32)) (cwV 2 C.2.2.2.2.1 gX3_at_X3_hasCells rfl rfl rfl hdV_X3_hasCells ⟨Nat.le_of_ble_eq_true rfl, Nat.le_of_ble_eq_true rfl⟩) [0] rfl rfl 0 rfl rfl rfl _ rfl (Nat.le_of_ble_eq_true rfl) ⟨Nat.zero_le _, Nat.zero_le _⟩ dX3_at_3 ?_
  generalize hu3 : (F_X3_hasCells lg i (1 : Int32)) = u3 at hf ⊢
  refine z_if_eq (tgt := 18) C dX3_at_6 (by decide) (fun c6 => ?_) (fun c6 => ?_)
  · rw [if_pos c6] at hf
    have b6 := c6
    rw [← hu3] at c6
    refine z_iconst (v := (0 : Int32)) C dX3_at_18 (by decide) ?_
    exact z_iretR C hr hlk (by rw [hf]) dX3_at_19
  · rw [if_neg c6] at hf
    have b6 := c6
    rw [← hu3] at c6
    refine z_aload_n C dX3_at_9 rfl 0 rfl ?_
    refine z_get (T := TX3) (v := .ref b1) C i_X3_at_3 0 rfl rfl 0 (by decide) m_X3_at_1 rfl rfl dX3_at_10 ?_
    refine z_iload_n C dX3_at_13 rfl 1 rfl ?_
    refine z_ald C 1 rfl (by subst hu3; exact (hasCells_ix hlg c6)) dX3_at_14 ?_
    refine z_goto (tgt := 19) C dX3_at_15 (by decide) ?_
    exact z_iretR C hr hlk (by rw [hf]) dX3_at_19
-- X3_set
theorem i_X3_set_3 : ∀ w ∈ u_ws RX3 TX3 3, w ∈ wsX3_set := by decide +kernel
theorem m_X3_set_1 : Cond.fieldLink RX3 15 "WishPins$Sheet" "lane" "I" ∈ wsX3_set := List.mem_of_getElem? (i := 1) rfl
theorem m_X3_set_2 : Cond.fieldLink RX3 9 "WishPins$Sheet" "cells" "[I" ∈ wsX3_set := List.mem_of_getElem? (i := 2) rfl
def F_X3_set (ln : Int32) (lg : Int32) (cl : Nat → Int32) (i : Int32) (v : Int32) : (Nat → Int32) :=
  (if (F_X3_hasCells lg i (1 : Int32)) = 0 then cl else (if ln = 0 then (upd cl i.toNatClampNeg v.toInt8.toInt32) else (if ln = (1 : Int32) then (upd cl i.toNatClampNeg v.toInt16.toInt32) else (upd cl i.toNatClampNeg v))))
set_option maxHeartbeats 4000000 in
set_option maxRecDepth 100000 in
theorem c_X3_set (l : Launch) (D : va_G) (cI cO : ClassId) (h3 : Nat) (b1 : Nat) (ln : Int32) (lg : Int32) (cl : Nat → Int32) (i : Int32) (v : Int32) (hlg : lg ≤ 60) : zW l yX3_set wsX3_set ({ frames := 1, cells := 0, slots := 0, locals := 22 } : Room) D cI cO [.ref h3, .int i, .int v] [(h3, .inr (3, [.ref b1, .int ln, .int lg])), (b1, .inl (cI, 60, .inl cl))] [(h3, .inr (3, [.ref b1, .int ln, .int lg])), (b1, .inl (cI, 60, .inl (F_X3_set ln lg cl i v)))] none := by
  refine zW_of (nL := 3) (cc := cX3_set) (ret := none) (lv := [(0, .ref h3), (1, .int i), (2, .int v)]) (by decide +kernel) rfl (Nat.le_of_ble_eq_true rfl) rfl (fun p e s m args below meth c C hr hlk => ?_)
  have hf := F_X3_set.eq_1 ln lg cl i v
  refine z_aload_n C dX3_set_0 rfl 0 rfl ?_
  refine z_iload_n C dX3_set_1 rfl 1 rfl ?_
  refine z_iconst (v := (1 : Int32)) C dX3_set_2 (by decide) ?_
  refine z_cVR (As := [.int i, .int (1 : Int32)]) C (c_X3_hasCells l D cI cO h3 b1 ln lg i (1 : Int32)) (cwV 2 C.2.2.2.2.1 gX3_set_X3_hasCells rfl rfl rfl hdV_X3_hasCells ⟨Nat.le_of_ble_eq_true rfl, Nat.le_of_ble_eq_true rfl⟩) [0] rfl rfl 0 rfl rfl rfl _ rfl (Nat.le_of_ble_eq_true rfl) ⟨Nat.zero_le _, Nat.zero_le _⟩ dX3_set_3 ?_
  generalize hu3 : (F_X3_hasCells lg i (1 : Int32)) = u3 at hf ⊢
  refine z_if_ne (tgt := 10) C dX3_set_6 (by decide) (fun c6 => ?_) (fun c6 => ?_)
  · rw [if_neg c6] at hf
    have b6 := c6
    rw [← hu3] at c6
    refine z_aload_n C dX3_set_10 rfl 0 rfl ?_
    refine z_get (T := TX3) (v := .int ln) C i_X3_set_3 0 rfl rfl 1 (by decide) m_X3_set_1 rfl rfl dX3_set_11 ?_
    refine z_if_ne (tgt := 28) C dX3_set_14 (by decide) (fun c14 => ?_) (fun c14 => ?_)
    · rw [if_neg c14] at hf
      refine z_aload_n C dX3_set_28 rfl 0 rfl ?_
      refine z_get (T := TX3) (v := .int ln) C i_X3_set_3 0 rfl rfl 1 (by decide) m_X3_set_1 rfl rfl dX3_set_29 ?_
      refine z_iconst (v := (1 : Int32)) C dX3_set_32 (by decide) ?_
      refine z_icmp_ne (tgt := 47) C dX3_set_33 (by decide) (fun c33 => ?_) (fun c33 => ?_)
      · rw [if_neg c33] at hf
        refine z_aload_n C dX3_set_47 rfl 0 rfl ?_
        refine z_get (T := TX3) (v := .ref b1) C i_X3_set_3 0 rfl rfl 0 (by decide) m_X3_set_2 rfl rfl dX3_set_48 ?_
        refine z_iload_n C dX3_set_51 rfl 1 rfl ?_
        refine z_iload_n C dX3_set_52 rfl 2 rfl ?_
        refine z_ast C [(h3, .inr (3, [.ref b1, .int ln, .int lg])), (b1, .inl (cI, 60, .inl (upd cl i.toNatClampNeg v)))] 1 rfl (by subst hu3; exact (hasCells_ix hlg c6)) dX3_set_53 rfl ?_
        exact z_vretW C hr hlk (by rw [hf]) dX3_set_54
      · rw [if_pos c33] at hf
        refine z_aload_n C dX3_set_36 rfl 0 rfl ?_
        refine z_get (T := TX3) (v := .ref b1) C i_X3_set_3 0 rfl rfl 0 (by decide) m_X3_set_2 rfl rfl dX3_set_37 ?_
        refine z_iload_n C dX3_set_40 rfl 1 rfl ?_
        refine z_iload_n C dX3_set_41 rfl 2 rfl ?_
        refine z_i2s C dX3_set_42 ?_
        refine z_ast C [(h3, .inr (3, [.ref b1, .int ln, .int lg])), (b1, .inl (cI, 60, .inl (upd cl i.toNatClampNeg v.toInt16.toInt32)))] 1 rfl (by subst hu3; exact (hasCells_ix hlg c6)) dX3_set_43 rfl ?_
        refine z_goto (tgt := 54) C dX3_set_44 (by decide) ?_
        exact z_vretW C hr hlk (by rw [hf]) dX3_set_54
    · rw [if_pos c14] at hf
      refine z_aload_n C dX3_set_17 rfl 0 rfl ?_
      refine z_get (T := TX3) (v := .ref b1) C i_X3_set_3 0 rfl rfl 0 (by decide) m_X3_set_2 rfl rfl dX3_set_18 ?_
      refine z_iload_n C dX3_set_21 rfl 1 rfl ?_
      refine z_iload_n C dX3_set_22 rfl 2 rfl ?_
      refine z_i2b C dX3_set_23 ?_
      refine z_ast C [(h3, .inr (3, [.ref b1, .int ln, .int lg])), (b1, .inl (cI, 60, .inl (upd cl i.toNatClampNeg v.toInt8.toInt32)))] 1 rfl (by subst hu3; exact (hasCells_ix hlg c6)) dX3_set_24 rfl ?_
      refine z_goto (tgt := 54) C dX3_set_25 (by decide) ?_
      exact z_vretW C hr hlk (by rw [hf]) dX3_set_54
  · rw [if_pos c6] at hf
    have b6 := c6
    rw [← hu3] at c6
    exact z_vretW C hr hlk (by rw [hf]) dX3_set_9
theorem dropTop_b (pn : Int32) : (F_X4_dropTop pn).1 = 0 ∨ (F_X4_dropTop pn).1 = 1 := by
  rw [F_X4_dropTop]
  split
  · exact Or.inr rfl
  · exact Or.inl rfl
