-- X2_clear
theorem i_X2_clear_2 : ∀ w ∈ u_ws RX2 TX2 3, w ∈ wsX2_clear := by decide +kernel
theorem m_X2_clear_1 : Cond.fieldLink RX2 18 "WishPins$Readings" "count" "I" ∈ wsX2_clear := List.mem_of_getElem? (i := 1) rfl
def F_X2_clear : Int32 :=
  (0 : Int32)
set_option maxHeartbeats 4000000 in
set_option maxRecDepth 100000 in
theorem c_X2_clear (l : Launch) (D : va_G) (cI cO : ClassId) (h2 : Nat) (e1 : Nat) (e2 : Nat) (rc : Int32) : zW l yX2_clear wsX2_clear ({ frames := 0, cells := 0, slots := 0, locals := 0 } : Room) D cI cO [.ref h2] [(h2, .inr (2, [.ref e1, .ref e2, .int rc]))] [(h2, .inr (2, [.ref e1, .ref e2, .int (F_X2_clear)]))] none := by
  refine zW_of (nL := 1) (cc := cX2_clear) (ret := none) (lv := [(0, .ref h2)]) (by decide +kernel) rfl (Nat.le_of_ble_eq_true rfl) rfl (fun p e s m args below meth c C hr hlk => ?_)
  have hf := F_X2_clear.eq_1
  refine z_aload_n C dX2_clear_0 rfl 0 rfl ?_
  refine z_iconst (v := (0 : Int32)) C dX2_clear_1 (by decide) ?_
  refine z_put (T := TX2) (ty := .int) C [(h2, .inr (2, [.ref e1, .ref e2, .int (0 : Int32)]))] i_X2_clear_2 tyX2 tyX2_ok nmX2 0 rfl rfl 2 (by decide) m_X2_clear_1 rfl rfl (by decide +kernel) rfl rfl (Nat.le_of_ble_eq_true rfl) dX2_clear_2 rfl ?_
  exact z_vretW C hr hlk (by rw [hf]) dX2_clear_5
-- X2_add
theorem i_X2_add_2 : ∀ w ∈ u_ws RX2 TX2 3, w ∈ wsX2_add := by decide +kernel
theorem m_X2_add_1 : Cond.fieldLink RX2 18 "WishPins$Readings" "count" "I" ∈ wsX2_add := List.mem_of_getElem? (i := 1) rfl
theorem m_X2_add_2 : Cond.fieldLink RX2 9 "WishPins$Readings" "pin" "[I" ∈ wsX2_add := List.mem_of_getElem? (i := 2) rfl
theorem m_X2_add_3 : Cond.fieldLink RX2 15 "WishPins$Readings" "wish" "[I" ∈ wsX2_add := List.mem_of_getElem? (i := 3) rfl
def F_X2_add (rc : Int32) (rp : Nat → Int32) (rw : Nat → Int32) (k : Int32) (v : Int32) : Int32 × Int32 × (Nat → Int32) × (Nat → Int32) :=
  (if rc < 0 then ((0 : Int32), rc, rp, rw) else (if rc < (8 : Int32) then ((1 : Int32), (rc + (1 : Int32)), (upd rp rc.toNatClampNeg k), (upd rw rc.toNatClampNeg v)) else ((0 : Int32), rc, rp, rw)))
set_option maxHeartbeats 4000000 in
set_option maxRecDepth 100000 in
theorem c_X2_add (l : Launch) (D : va_G) (cI cO : ClassId) (h2 : Nat) (e1 : Nat) (e2 : Nat) (rc : Int32) (rp : Nat → Int32) (rw : Nat → Int32) (k : Int32) (v : Int32) : zW l yX2_add wsX2_add ({ frames := 0, cells := 0, slots := 0, locals := 0 } : Room) D cI cO [.ref h2, .int k, .int v] [(h2, .inr (2, [.ref e1, .ref e2, .int rc])), (e1, .inl (cI, 8, .inl rp)), (e2, .inl (cI, 8, .inl rw))] [(h2, .inr (2, [.ref e1, .ref e2, .int ((F_X2_add rc rp rw k v).2.1)])), (e1, .inl (cI, 8, .inl ((F_X2_add rc rp rw k v).2.2.1))), (e2, .inl (cI, 8, .inl ((F_X2_add rc rp rw k v).2.2.2)))] (some (.int ((F_X2_add rc rp rw k v).1))) := by
  refine zW_of (nL := 3) (cc := cX2_add) (ret := some .boolean) (lv := [(0, .ref h2), (1, .int k), (2, .int v)]) (by decide +kernel) rfl (Nat.le_of_ble_eq_true rfl) rfl (fun p e s m args below meth c C hr hlk => ?_)
  have hf := F_X2_add.eq_1 rc rp rw k v
  refine z_aload_n C dX2_add_0 rfl 0 rfl ?_
  refine z_get (T := TX2) (v := .int rc) C i_X2_add_2 0 rfl rfl 2 (by decide) m_X2_add_1 rfl rfl dX2_add_1 ?_
  refine z_if_lt (tgt := 16) C dX2_add_4 (by decide) (fun c4 => ?_) (fun c4 => ?_)
  · rw [if_pos c4] at hf
    refine z_iconst (v := (0 : Int32)) C dX2_add_16 (by decide) ?_
    exact z_zretW C hr hlk rfl (by rw [hf]) (by rw [hf]) dX2_add_17
  · rw [if_neg c4] at hf
    refine z_aload_n C dX2_add_7 rfl 0 rfl ?_
    refine z_get (T := TX2) (v := .int rc) C i_X2_add_2 0 rfl rfl 2 (by decide) m_X2_add_1 rfl rfl dX2_add_8 ?_
    refine z_bipush (v := (8 : Int32)) C dX2_add_11 (by decide) ?_
    refine z_icmp_lt (tgt := 18) C dX2_add_13 (by decide) (fun c13 => ?_) (fun c13 => ?_)
    · rw [if_pos c13] at hf
      refine z_aload_n C dX2_add_18 rfl 0 rfl ?_
      refine z_get (T := TX2) (v := .ref e1) C i_X2_add_2 0 rfl rfl 0 (by decide) m_X2_add_2 rfl rfl dX2_add_19 ?_
      refine z_aload_n C dX2_add_22 rfl 0 rfl ?_
      refine z_get (T := TX2) (v := .int rc) C i_X2_add_2 0 rfl rfl 2 (by decide) m_X2_add_1 rfl rfl dX2_add_23 ?_
      refine z_iload_n C dX2_add_26 rfl 1 rfl ?_
      refine z_ast C [(h2, .inr (2, [.ref e1, .ref e2, .int rc])), (e1, .inl (cI, 8, .inl (upd rp rc.toNatClampNeg k))), (e2, .inl (cI, 8, .inl rw))] 1 rfl (z_in (N := 8) (by decide) c4 c13) dX2_add_27 rfl ?_
      refine z_aload_n C dX2_add_28 rfl 0 rfl ?_
      refine z_get (T := TX2) (v := .ref e2) C i_X2_add_2 0 rfl rfl 1 (by decide) m_X2_add_3 rfl rfl dX2_add_29 ?_
      refine z_aload_n C dX2_add_32 rfl 0 rfl ?_
      refine z_get (T := TX2) (v := .int rc) C i_X2_add_2 0 rfl rfl 2 (by decide) m_X2_add_1 rfl rfl dX2_add_33 ?_
      refine z_iload_n C dX2_add_36 rfl 2 rfl ?_
      refine z_ast C [(h2, .inr (2, [.ref e1, .ref e2, .int rc])), (e1, .inl (cI, 8, .inl (upd rp rc.toNatClampNeg k))), (e2, .inl (cI, 8, .inl (upd rw rc.toNatClampNeg v)))] 2 rfl (z_in (N := 8) (by decide) c4 c13) dX2_add_37 rfl ?_
      refine z_aload_n C dX2_add_38 rfl 0 rfl ?_
      refine z_dup C dX2_add_39 rfl ?_
      refine z_get (T := TX2) (v := .int rc) C i_X2_add_2 0 rfl rfl 2 (by decide) m_X2_add_1 rfl rfl dX2_add_40 ?_
      refine z_iconst (v := (1 : Int32)) C dX2_add_43 (by decide) ?_
      refine z_iadd C dX2_add_44 ?_
      refine z_put (T := TX2) (ty := .int) C [(h2, .inr (2, [.ref e1, .ref e2, .int (rc + (1 : Int32))])), (e1, .inl (cI, 8, .inl (upd rp rc.toNatClampNeg k))), (e2, .inl (cI, 8, .inl (upd rw rc.toNatClampNeg v)))] i_X2_add_2 tyX2 tyX2_ok nmX2 0 rfl rfl 2 (by decide) m_X2_add_1 rfl rfl (by decide +kernel) rfl rfl (Nat.le_of_ble_eq_true rfl) dX2_add_45 rfl ?_
      refine z_iconst (v := (1 : Int32)) C dX2_add_48 (by decide) ?_
      exact z_zretW C hr hlk rfl (by rw [hf]) (by rw [hf]) dX2_add_49
    · rw [if_neg c13] at hf
      refine z_iconst (v := (0 : Int32)) C dX2_add_16 (by decide) ?_
      exact z_zretW C hr hlk rfl (by rw [hf]) (by rw [hf]) dX2_add_17
-- X2_areSoWith
theorem i_X2_areSoWith_2 : ∀ w ∈ u_ws RX2 TX2 3, w ∈ wsX2_areSoWith := by decide +kernel
theorem m_X2_areSoWith_1 : Cond.fieldLink RX2 18 "WishPins$Readings" "count" "I" ∈ wsX2_areSoWith := List.mem_of_getElem? (i := 1) rfl
theorem m_X2_areSoWith_2 : Cond.fieldLink RX2 9 "WishPins$Readings" "pin" "[I" ∈ wsX2_areSoWith := List.mem_of_getElem? (i := 2) rfl
theorem i_X2_areSoWith_4 : ∀ w ∈ u_ws RX4 TX4 7, w ∈ wsX2_areSoWith := by decide +kernel
theorem m_X2_areSoWith_3 : Cond.fieldLink RX2 28 "WishPins$Well" "slope" "I" ∈ wsX2_areSoWith := List.mem_of_getElem? (i := 3) rfl
theorem m_X2_areSoWith_4 : Cond.fieldLink RX2 31 "WishPins$Well" "drift" "I" ∈ wsX2_areSoWith := List.mem_of_getElem? (i := 4) rfl
theorem m_X2_areSoWith_19 : Cond.initialized RX5 ∈ wsX2_areSoWith := List.mem_of_getElem? (i := 19) rfl
theorem m_X2_areSoWith_26 : Cond.static yX5_wishOf ∈ wsX2_areSoWith := List.mem_of_getElem? (i := 26) rfl
theorem m_X2_areSoWith_5 : Cond.fieldLink RX2 15 "WishPins$Readings" "wish" "[I" ∈ wsX2_areSoWith := List.mem_of_getElem? (i := 5) rfl
def F_X2_areSoWith_k3 (x4_3 : Int32) : Int32 :=
  (1 : Int32)
def F_X2_areSoWith_l3 (rc : Int32) (rp : Nat → Int32) (rw : Nat → Int32) (pn : Int32) (sl : Int32) (dr : Int32) (kd : Nat → Int32) (bd : Nat → Int32) (yr : Nat → Int32) (k : Int32) (t : Int32) (K_ : Int32 → Int32) : Nat → Int32 → Int32
  | 0, x4_3 => K_ x4_3
  | d3 + 1, x4_3 => (if rc ≤ x4_3 then (K_ x4_3) else (if (8 : Int32) ≤ x4_3 then (K_ x4_3) else (if (rp x4_3.toNatClampNeg) = k then (if (F_X5_wishOf sl t dr (F_X4_yearAt pn yr (rp x4_3.toNatClampNeg))) = (rw x4_3.toNatClampNeg) then (F_X2_areSoWith_l3 rc rp rw pn sl dr kd bd yr k t K_ d3 (x4_3 + (1 : Int32))) else (0 : Int32)) else (if (F_X5_wishOf sl (F_X4_turnAt pn kd bd (rp x4_3.toNatClampNeg)) dr (F_X4_yearAt pn yr (rp x4_3.toNatClampNeg))) = (rw x4_3.toNatClampNeg) then (F_X2_areSoWith_l3 rc rp rw pn sl dr kd bd yr k t K_ d3 (x4_3 + (1 : Int32))) else (0 : Int32)))))
def F_X2_areSoWith (rc : Int32) (rp : Nat → Int32) (rw : Nat → Int32) (pn : Int32) (sl : Int32) (dr : Int32) (kd : Nat → Int32) (bd : Nat → Int32) (yr : Nat → Int32) (k : Int32) (t : Int32) : Int32 :=
  (F_X2_areSoWith_l3 rc rp rw pn sl dr kd bd yr k t F_X2_areSoWith_k3 9 (0 : Int32))
set_option maxHeartbeats 4000000 in
set_option maxRecDepth 100000 in
theorem c_X2_areSoWith (l : Launch) (D : va_G) (cI cO : ClassId) (h2 : Nat) (e1 : Nat) (e2 : Nat) (rc : Int32) (rp : Nat → Int32) (rw : Nat → Int32) (h4 : Nat) (a1 : Nat) (a2 : Nat) (a3 : Nat) (pn : Int32) (sl : Int32) (dr : Int32) (nw : Int32) (kd : Nat → Int32) (bd : Nat → Int32) (yr : Nat → Int32) (k : Int32) (t : Int32) : zR l yX2_areSoWith wsX2_areSoWith ({ frames := 2, cells := 0, slots := 0, locals := 42 } : Room) D cI cO [.ref h2, .ref h4, .int k, .int t] [(h2, .inr (2, [.ref e1, .ref e2, .int rc])), (e1, .inl (cI, 8, .inl rp)), (e2, .inl (cI, 8, .inl rw)), (h4, .inr (4, [.ref a1, .ref a2, .ref a3, .int pn, .int sl, .int dr, .int nw])), (a1, .inl (cI, 9, .inl kd)), (a2, .inl (cI, 9, .inl bd)), (a3, .inl (cI, 9, .inl yr))] (some (.int (F_X2_areSoWith rc rp rw pn sl dr kd bd yr k t))) := by
  refine zR_of (nL := 7) (cc := cX2_areSoWith) (ret := some .boolean) (lv := [(0, .ref h2), (1, .ref h4), (2, .int k), (3, .int t)]) (by decide +kernel) rfl (Nat.le_of_ble_eq_true rfl) rfl (fun p e s m args below meth c C hr hlk => ?_)
  have hf := F_X2_areSoWith.eq_1 rc rp rw pn sl dr kd bd yr k t
  refine z_iconst (v := (0 : Int32)) C dX2_areSoWith_0 (by decide) ?_
  refine z_istore C [(0, .ref h2), (1, .ref h4), (2, .int k), (3, .int t), (4, .int (0 : Int32))] dX2_areSoWith_1 (by decide) [1, 2, 3, 4, 0] rfl ?_
  have X3 : ∀ (x4_3 : Int32), F_X2_areSoWith rc rp rw pn sl dr kd bd yr k t = F_X2_areSoWith_k3 x4_3 → zG p l e ({ frames := 2, cells := 0, slots := 0, locals := 42 } : Room) s m args below meth c D (fun _ => True) (zXr s) 7 0 0 (MQ below (zQr (some (.int (F_X2_areSoWith rc rp rw pn sl dr kd bd yr k t)))) args s 0 0 (fun _ => False)) 83 [(0, .ref h2), (1, .ref h4), (2, .int k), (3, .int t), (4, .int x4_3)] [] [(h2, .inr (2, [.ref e1, .ref e2, .int rc])), (e1, .inl (cI, 8, .inl rp)), (e2, .inl (cI, 8, .inl rw)), (h4, .inr (4, [.ref a1, .ref a2, .ref a3, .int pn, .int sl, .int dr, .int nw])), (a1, .inl (cI, 9, .inl kd)), (a2, .inl (cI, 9, .inl bd)), (a3, .inl (cI, 9, .inl yr))] := by
    intro x4_3 hf
    rw [F_X2_areSoWith_k3] at hf
    skip
    refine z_iconst (v := (1 : Int32)) C dX2_areSoWith_83 (by decide) ?_
    exact z_zretR C hr hlk rfl (by rw [hf]) dX2_areSoWith_84
  have L3 : ∀ (d3 : Nat) (j : Nat) (x4_3 : Int32) (e4 : x4_3 = nI j) (hj : j ≤ 8) (hd : 8 < j + d3), F_X2_areSoWith rc rp rw pn sl dr kd bd yr k t = F_X2_areSoWith_l3 rc rp rw pn sl dr kd bd yr k t F_X2_areSoWith_k3 d3 x4_3 → zG p l e ({ frames := 2, cells := 0, slots := 0, locals := 42 } : Room) s m args below meth c D (fun _ => True) (zXr s) 7 0 0 (MQ below (zQr (some (.int (F_X2_areSoWith rc rp rw pn sl dr kd bd yr k t)))) args s 0 0 (fun _ => False)) 3 [(0, .ref h2), (1, .ref h4), (2, .int k), (3, .int t), (4, .int x4_3)] [] [(h2, .inr (2, [.ref e1, .ref e2, .int rc])), (e1, .inl (cI, 8, .inl rp)), (e2, .inl (cI, 8, .inl rw)), (h4, .inr (4, [.ref a1, .ref a2, .ref a3, .int pn, .int sl, .int dr, .int nw])), (a1, .inl (cI, 9, .inl kd)), (a2, .inl (cI, 9, .inl bd)), (a3, .inl (cI, 9, .inl yr))] := by
    intro d3
    induction d3 with
    | zero =>
      intro j x4_3 e4 hj hd hf
      exfalso; omega
    | succ d3 ih3 =>
      intro j x4_3 e4 hj hd hf
      rw [F_X2_areSoWith_l3] at hf
      skip
      refine z_iload C dX2_areSoWith_3 4 rfl ?_
      refine z_aload_n C dX2_areSoWith_5 rfl 0 rfl ?_
      refine z_get (T := TX2) (v := .int rc) C i_X2_areSoWith_2 0 rfl rfl 2 (by decide) m_X2_areSoWith_1 rfl rfl dX2_areSoWith_6 ?_
      refine z_icmp_ge (tgt := 83) C dX2_areSoWith_9 (by decide) (fun c9 => ?_) (fun c9 => ?_)
      · rw [if_pos c9] at hf
        exact X3 x4_3  hf
      · rw [if_neg c9] at hf
        refine z_iload C dX2_areSoWith_12 4 rfl ?_
        refine z_bipush (v := (8 : Int32)) C dX2_areSoWith_14 (by decide) ?_
        refine z_icmp_ge (tgt := 83) C dX2_areSoWith_16 (by decide) (fun c16 => ?_) (fun c16 => ?_)
        · rw [if_pos c16] at hf
          exact X3 x4_3  hf
        · rw [if_neg c16] at hf
          refine z_aload_n C dX2_areSoWith_19 rfl 0 rfl ?_
          refine z_get (T := TX2) (v := .ref e1) C i_X2_areSoWith_2 0 rfl rfl 0 (by decide) m_X2_areSoWith_2 rfl rfl dX2_areSoWith_20 ?_
          refine z_iload C dX2_areSoWith_23 4 rfl ?_
          refine z_ald C 1 rfl (z_ixN e4 (z_jlt e4 (by omega) (by decide) c16) (by decide)) dX2_areSoWith_25 ?_
          refine z_istore C [(0, .ref h2), (1, .ref h4), (2, .int k), (3, .int t), (4, .int x4_3), (5, .int (rp x4_3.toNatClampNeg))] dX2_areSoWith_26 (by decide) [1, 2, 3, 4, 5, 0] rfl ?_
          refine z_iload C dX2_areSoWith_28 5 rfl ?_
          refine z_iload_n C dX2_areSoWith_30 rfl 2 rfl ?_
          refine z_icmp_ne (tgt := 38) C dX2_areSoWith_31 (by decide) (fun c31 => ?_) (fun c31 => ?_)
          · rw [if_neg c31] at hf
            refine z_aload_n C dX2_areSoWith_38 rfl 1 rfl ?_
            refine z_iload C dX2_areSoWith_39 5 rfl ?_
            refine z_cVR (As := [.int (rp x4_3.toNatClampNeg)]) C (c_X4_turnAt l D cI cO h4 a1 a2 a3 pn sl dr nw kd bd (rp x4_3.toNatClampNeg)) (cwV 1 C.2.2.2.2.1 gX2_areSoWith_X4_turnAt rfl rfl rfl hdV_X4_turnAt ⟨Nat.le_of_ble_eq_true rfl, Nat.le_of_ble_eq_true rfl⟩) [3, 4, 5] rfl rfl 3 rfl rfl rfl _ rfl (Nat.le_of_ble_eq_true rfl) ⟨Nat.zero_le _, Nat.zero_le _⟩ dX2_areSoWith_41 ?_
            generalize hu41 : (F_X4_turnAt pn kd bd (rp x4_3.toNatClampNeg)) = u41 at hf ⊢
            refine z_istore C [(0, .ref h2), (1, .ref h4), (2, .int k), (3, .int t), (4, .int x4_3), (5, .int (rp x4_3.toNatClampNeg)), (6, .int u41)] dX2_areSoWith_44 (by decide) [1, 2, 3, 4, 5, 6, 0] rfl ?_
            refine z_aload_n C dX2_areSoWith_46 rfl 1 rfl ?_
            refine z_get (T := TX4) (v := .int sl) C i_X2_areSoWith_4 3 rfl rfl 4 (by decide) m_X2_areSoWith_3 rfl rfl dX2_areSoWith_47 ?_
            refine z_iload C dX2_areSoWith_50 6 rfl ?_
            refine z_aload_n C dX2_areSoWith_52 rfl 1 rfl ?_
            refine z_get (T := TX4) (v := .int dr) C i_X2_areSoWith_4 3 rfl rfl 5 (by decide) m_X2_areSoWith_4 rfl rfl dX2_areSoWith_53 ?_
            refine z_aload_n C dX2_areSoWith_56 rfl 1 rfl ?_
            refine z_iload C dX2_areSoWith_57 5 rfl ?_
            refine z_cVR (As := [.int (rp x4_3.toNatClampNeg)]) C (c_X4_yearAt l D cI cO h4 a1 a2 a3 pn sl dr nw yr (rp x4_3.toNatClampNeg)) (cwV 1 C.2.2.2.2.1 gX2_areSoWith_X4_yearAt rfl rfl rfl hdV_X4_yearAt ⟨Nat.le_of_ble_eq_true rfl, Nat.le_of_ble_eq_true rfl⟩) [3, 6] rfl rfl 3 rfl rfl rfl _ rfl (Nat.le_of_ble_eq_true rfl) ⟨Nat.zero_le _, Nat.zero_le _⟩ dX2_areSoWith_59 ?_
            generalize hu59 : (F_X4_yearAt pn yr (rp x4_3.toNatClampNeg)) = u59 at hf ⊢
            refine z_cNR (As := [.int sl, .int u41, .int dr, .int u59]) C (c_X5_wishOf l D cI cO sl u41 dr u59) ⟨va_cnB 4 C.2.2.2.2.1 gX2_areSoWith_X5_wishOf_n37 rfl rfl rfl (zN_6 C.2.2.2.2.2.2) (C.2.2.2.2.1 _ m_X2_areSoWith_19) hdS_X5_wishOf ⟨Nat.le_of_ble_eq_true rfl, Nat.le_of_ble_eq_true rfl⟩, C.2.2.2.2.1 _ m_X2_areSoWith_26, trivial⟩ [] rfl rfl rfl _ rfl (Nat.le_of_ble_eq_true rfl) ⟨Nat.zero_le _, Nat.zero_le _⟩ dX2_areSoWith_62 ?_
            generalize hu62 : (F_X5_wishOf sl u41 dr u59) = u62 at hf ⊢
            refine z_aload_n C dX2_areSoWith_65 rfl 0 rfl ?_
            refine z_get (T := TX2) (v := .ref e2) C i_X2_areSoWith_2 0 rfl rfl 1 (by decide) m_X2_areSoWith_5 rfl rfl dX2_areSoWith_66 ?_
            refine z_iload C dX2_areSoWith_69 4 rfl ?_
            refine z_ald C 2 rfl (by subst hu62 hu59 hu41; exact (z_ixN e4 (z_jlt e4 (by omega) (by decide) c16) (by decide))) dX2_areSoWith_71 ?_
            refine z_icmp_eq (tgt := 77) C dX2_areSoWith_72 (by decide) (fun c72 => ?_) (fun c72 => ?_)
            · rw [if_pos c72] at hf
              have b72 := c72
              rw [← hu62] at c72
              refine z_iinc (v := (x4_3 + (1 : Int32))) C [(0, .ref h2), (1, .ref h4), (2, .int k), (3, .int t), (4, .int (x4_3 + (1 : Int32))), (5, .int (rp x4_3.toNatClampNeg)), (6, .int u41)] dX2_areSoWith_77 4 rfl (by rfl) (by decide) [1, 2, 3, 4, 0, 5, 6] rfl ?_
              refine z_goto (tgt := 3) C dX2_areSoWith_80 (by decide) ?_
              refine z_ls [(0, .ref h2), (1, .ref h4), (2, .int k), (3, .int t), (4, .int (x4_3 + (1 : Int32)))] [0, 1, 2, 3, 4] rfl ?_
              exact ih3 (j + 1) (x4_3 + (1 : Int32)) (by subst hu62 hu59 hu41; exact (by rw [e4]; exact nI_1 j)) (by subst hu62 hu59 hu41; exact (by have := z_jlt (n := 8) e4 (by omega) (by decide) c16; omega)) (by omega) hf
            · rw [if_neg c72] at hf
              have b72 := c72
              rw [← hu62] at c72
              refine z_iconst (v := (0 : Int32)) C dX2_areSoWith_75 (by decide) ?_
              exact z_zretR C hr hlk rfl (by rw [hf]) dX2_areSoWith_76
          · rw [if_pos c31] at hf
            refine z_iload_n C dX2_areSoWith_34 rfl 3 rfl ?_
            refine z_goto (tgt := 44) C dX2_areSoWith_35 (by decide) ?_
            refine z_istore C [(0, .ref h2), (1, .ref h4), (2, .int k), (3, .int t), (4, .int x4_3), (5, .int (rp x4_3.toNatClampNeg)), (6, .int t)] dX2_areSoWith_44 (by decide) [1, 2, 3, 4, 5, 6, 0] rfl ?_
            refine z_aload_n C dX2_areSoWith_46 rfl 1 rfl ?_
            refine z_get (T := TX4) (v := .int sl) C i_X2_areSoWith_4 3 rfl rfl 4 (by decide) m_X2_areSoWith_3 rfl rfl dX2_areSoWith_47 ?_
            refine z_iload C dX2_areSoWith_50 6 rfl ?_
            refine z_aload_n C dX2_areSoWith_52 rfl 1 rfl ?_
            refine z_get (T := TX4) (v := .int dr) C i_X2_areSoWith_4 3 rfl rfl 5 (by decide) m_X2_areSoWith_4 rfl rfl dX2_areSoWith_53 ?_
            refine z_aload_n C dX2_areSoWith_56 rfl 1 rfl ?_
            refine z_iload C dX2_areSoWith_57 5 rfl ?_
            refine z_cVR (As := [.int (rp x4_3.toNatClampNeg)]) C (c_X4_yearAt l D cI cO h4 a1 a2 a3 pn sl dr nw yr (rp x4_3.toNatClampNeg)) (cwV 1 C.2.2.2.2.1 gX2_areSoWith_X4_yearAt rfl rfl rfl hdV_X4_yearAt ⟨Nat.le_of_ble_eq_true rfl, Nat.le_of_ble_eq_true rfl⟩) [3, 6] rfl rfl 3 rfl rfl rfl _ rfl (Nat.le_of_ble_eq_true rfl) ⟨Nat.zero_le _, Nat.zero_le _⟩ dX2_areSoWith_59 ?_
            generalize hu59 : (F_X4_yearAt pn yr (rp x4_3.toNatClampNeg)) = u59 at hf ⊢
            refine z_cNR (As := [.int sl, .int t, .int dr, .int u59]) C (c_X5_wishOf l D cI cO sl t dr u59) ⟨va_cnB 4 C.2.2.2.2.1 gX2_areSoWith_X5_wishOf_n37 rfl rfl rfl (zN_6 C.2.2.2.2.2.2) (C.2.2.2.2.1 _ m_X2_areSoWith_19) hdS_X5_wishOf ⟨Nat.le_of_ble_eq_true rfl, Nat.le_of_ble_eq_true rfl⟩, C.2.2.2.2.1 _ m_X2_areSoWith_26, trivial⟩ [] rfl rfl rfl _ rfl (Nat.le_of_ble_eq_true rfl) ⟨Nat.zero_le _, Nat.zero_le _⟩ dX2_areSoWith_62 ?_
            generalize hu62 : (F_X5_wishOf sl t dr u59) = u62 at hf ⊢
            refine z_aload_n C dX2_areSoWith_65 rfl 0 rfl ?_
            refine z_get (T := TX2) (v := .ref e2) C i_X2_areSoWith_2 0 rfl rfl 1 (by decide) m_X2_areSoWith_5 rfl rfl dX2_areSoWith_66 ?_
            refine z_iload C dX2_areSoWith_69 4 rfl ?_
            refine z_ald C 2 rfl (by subst hu62 hu59; exact (z_ixN e4 (z_jlt e4 (by omega) (by decide) c16) (by decide))) dX2_areSoWith_71 ?_
            refine z_icmp_eq (tgt := 77) C dX2_areSoWith_72 (by decide) (fun c72 => ?_) (fun c72 => ?_)
            · rw [if_pos c72] at hf
              have b72 := c72
              rw [← hu62] at c72
              refine z_iinc (v := (x4_3 + (1 : Int32))) C [(0, .ref h2), (1, .ref h4), (2, .int k), (3, .int t), (4, .int (x4_3 + (1 : Int32))), (5, .int (rp x4_3.toNatClampNeg)), (6, .int t)] dX2_areSoWith_77 4 rfl (by rfl) (by decide) [1, 2, 3, 4, 0, 5, 6] rfl ?_
              refine z_goto (tgt := 3) C dX2_areSoWith_80 (by decide) ?_
              refine z_ls [(0, .ref h2), (1, .ref h4), (2, .int k), (3, .int t), (4, .int (x4_3 + (1 : Int32)))] [0, 1, 2, 3, 4] rfl ?_
              exact ih3 (j + 1) (x4_3 + (1 : Int32)) (by subst hu62 hu59; exact (by rw [e4]; exact nI_1 j)) (by subst hu62 hu59; exact (by have := z_jlt (n := 8) e4 (by omega) (by decide) c16; omega)) (by omega) hf
            · rw [if_neg c72] at hf
              have b72 := c72
              rw [← hu62] at c72
              refine z_iconst (v := (0 : Int32)) C dX2_areSoWith_75 (by decide) ?_
              exact z_zretR C hr hlk rfl (by rw [hf]) dX2_areSoWith_76
  exact L3 9 0 (0 : Int32) nI_0.symm (Nat.zero_le _) (by omega) hf
-- X2_areSoByKey
theorem i_X2_areSoByKey_2 : ∀ w ∈ u_ws RX2 TX2 3, w ∈ wsX2_areSoByKey := by decide +kernel
theorem m_X2_areSoByKey_1 : Cond.fieldLink RX2 18 "WishPins$Readings" "count" "I" ∈ wsX2_areSoByKey := List.mem_of_getElem? (i := 1) rfl
theorem m_X2_areSoByKey_2 : Cond.fieldLink RX2 9 "WishPins$Readings" "pin" "[I" ∈ wsX2_areSoByKey := List.mem_of_getElem? (i := 2) rfl
theorem m_X2_areSoByKey_17 : Cond.initialized RX5 ∈ wsX2_areSoByKey := List.mem_of_getElem? (i := 17) rfl
theorem m_X2_areSoByKey_24 : Cond.static yX5_wishOf ∈ wsX2_areSoByKey := List.mem_of_getElem? (i := 24) rfl
theorem m_X2_areSoByKey_3 : Cond.fieldLink RX2 15 "WishPins$Readings" "wish" "[I" ∈ wsX2_areSoByKey := List.mem_of_getElem? (i := 3) rfl
def F_X2_areSoByKey_k3 (x4_3 : Int32) : Int32 :=
  (1 : Int32)
def F_X2_areSoByKey_l3 (rc : Int32) (rp : Nat → Int32) (rw : Nat → Int32) (pn : Int32) (kd : Nat → Int32) (bd : Nat → Int32) (yr : Nat → Int32) (a : Int32) (b : Int32) (K_ : Int32 → Int32) : Nat → Int32 → Int32
  | 0, x4_3 => K_ x4_3
  | d3 + 1, x4_3 => (if rc ≤ x4_3 then (K_ x4_3) else (if (8 : Int32) ≤ x4_3 then (K_ x4_3) else (if (F_X5_wishOf a (F_X4_turnAt pn kd bd (rp x4_3.toNatClampNeg)) b (F_X4_yearAt pn yr (rp x4_3.toNatClampNeg))) = (rw x4_3.toNatClampNeg) then (F_X2_areSoByKey_l3 rc rp rw pn kd bd yr a b K_ d3 (x4_3 + (1 : Int32))) else (0 : Int32))))
def F_X2_areSoByKey (rc : Int32) (rp : Nat → Int32) (rw : Nat → Int32) (pn : Int32) (kd : Nat → Int32) (bd : Nat → Int32) (yr : Nat → Int32) (a : Int32) (b : Int32) : Int32 :=
  (F_X2_areSoByKey_l3 rc rp rw pn kd bd yr a b F_X2_areSoByKey_k3 9 (0 : Int32))
set_option maxHeartbeats 4000000 in
set_option maxRecDepth 100000 in
theorem c_X2_areSoByKey (l : Launch) (D : va_G) (cI cO : ClassId) (h2 : Nat) (e1 : Nat) (e2 : Nat) (rc : Int32) (rp : Nat → Int32) (rw : Nat → Int32) (h4 : Nat) (a1 : Nat) (a2 : Nat) (a3 : Nat) (pn : Int32) (sl : Int32) (dr : Int32) (nw : Int32) (kd : Nat → Int32) (bd : Nat → Int32) (yr : Nat → Int32) (a : Int32) (b : Int32) : zR l yX2_areSoByKey wsX2_areSoByKey ({ frames := 2, cells := 0, slots := 0, locals := 42 } : Room) D cI cO [.ref h2, .ref h4, .int a, .int b] [(h2, .inr (2, [.ref e1, .ref e2, .int rc])), (e1, .inl (cI, 8, .inl rp)), (e2, .inl (cI, 8, .inl rw)), (h4, .inr (4, [.ref a1, .ref a2, .ref a3, .int pn, .int sl, .int dr, .int nw])), (a1, .inl (cI, 9, .inl kd)), (a2, .inl (cI, 9, .inl bd)), (a3, .inl (cI, 9, .inl yr))] (some (.int (F_X2_areSoByKey rc rp rw pn kd bd yr a b))) := by
  refine zR_of (nL := 6) (cc := cX2_areSoByKey) (ret := some .boolean) (lv := [(0, .ref h2), (1, .ref h4), (2, .int a), (3, .int b)]) (by decide +kernel) rfl (Nat.le_of_ble_eq_true rfl) rfl (fun p e s m args below meth c C hr hlk => ?_)
  have hf := F_X2_areSoByKey.eq_1 rc rp rw pn kd bd yr a b
  refine z_iconst (v := (0 : Int32)) C dX2_areSoByKey_0 (by decide) ?_
  refine z_istore C [(0, .ref h2), (1, .ref h4), (2, .int a), (3, .int b), (4, .int (0 : Int32))] dX2_areSoByKey_1 (by decide) [1, 2, 3, 4, 0] rfl ?_
  have X3 : ∀ (x4_3 : Int32), F_X2_areSoByKey rc rp rw pn kd bd yr a b = F_X2_areSoByKey_k3 x4_3 → zG p l e ({ frames := 2, cells := 0, slots := 0, locals := 42 } : Room) s m args below meth c D (fun _ => True) (zXr s) 6 0 0 (MQ below (zQr (some (.int (F_X2_areSoByKey rc rp rw pn kd bd yr a b)))) args s 0 0 (fun _ => False)) 63 [(0, .ref h2), (1, .ref h4), (2, .int a), (3, .int b), (4, .int x4_3)] [] [(h2, .inr (2, [.ref e1, .ref e2, .int rc])), (e1, .inl (cI, 8, .inl rp)), (e2, .inl (cI, 8, .inl rw)), (h4, .inr (4, [.ref a1, .ref a2, .ref a3, .int pn, .int sl, .int dr, .int nw])), (a1, .inl (cI, 9, .inl kd)), (a2, .inl (cI, 9, .inl bd)), (a3, .inl (cI, 9, .inl yr))] := by
    intro x4_3 hf
    rw [F_X2_areSoByKey_k3] at hf
    skip
    refine z_iconst (v := (1 : Int32)) C dX2_areSoByKey_63 (by decide) ?_
    exact z_zretR C hr hlk rfl (by rw [hf]) dX2_areSoByKey_64
  have L3 : ∀ (d3 : Nat) (j : Nat) (x4_3 : Int32) (e4 : x4_3 = nI j) (hj : j ≤ 8) (hd : 8 < j + d3), F_X2_areSoByKey rc rp rw pn kd bd yr a b = F_X2_areSoByKey_l3 rc rp rw pn kd bd yr a b F_X2_areSoByKey_k3 d3 x4_3 → zG p l e ({ frames := 2, cells := 0, slots := 0, locals := 42 } : Room) s m args below meth c D (fun _ => True) (zXr s) 6 0 0 (MQ below (zQr (some (.int (F_X2_areSoByKey rc rp rw pn kd bd yr a b)))) args s 0 0 (fun _ => False)) 3 [(0, .ref h2), (1, .ref h4), (2, .int a), (3, .int b), (4, .int x4_3)] [] [(h2, .inr (2, [.ref e1, .ref e2, .int rc])), (e1, .inl (cI, 8, .inl rp)), (e2, .inl (cI, 8, .inl rw)), (h4, .inr (4, [.ref a1, .ref a2, .ref a3, .int pn, .int sl, .int dr, .int nw])), (a1, .inl (cI, 9, .inl kd)), (a2, .inl (cI, 9, .inl bd)), (a3, .inl (cI, 9, .inl yr))] := by
    intro d3
    induction d3 with
    | zero =>
      intro j x4_3 e4 hj hd hf
      exfalso; omega
    | succ d3 ih3 =>
      intro j x4_3 e4 hj hd hf
      rw [F_X2_areSoByKey_l3] at hf
      skip
      refine z_iload C dX2_areSoByKey_3 4 rfl ?_
      refine z_aload_n C dX2_areSoByKey_5 rfl 0 rfl ?_
      refine z_get (T := TX2) (v := .int rc) C i_X2_areSoByKey_2 0 rfl rfl 2 (by decide) m_X2_areSoByKey_1 rfl rfl dX2_areSoByKey_6 ?_
      refine z_icmp_ge (tgt := 63) C dX2_areSoByKey_9 (by decide) (fun c9 => ?_) (fun c9 => ?_)
      · rw [if_pos c9] at hf
        exact X3 x4_3  hf
      · rw [if_neg c9] at hf
        refine z_iload C dX2_areSoByKey_12 4 rfl ?_
        refine z_bipush (v := (8 : Int32)) C dX2_areSoByKey_14 (by decide) ?_
        refine z_icmp_ge (tgt := 63) C dX2_areSoByKey_16 (by decide) (fun c16 => ?_) (fun c16 => ?_)
        · rw [if_pos c16] at hf
          exact X3 x4_3  hf
        · rw [if_neg c16] at hf
          refine z_aload_n C dX2_areSoByKey_19 rfl 0 rfl ?_
          refine z_get (T := TX2) (v := .ref e1) C i_X2_areSoByKey_2 0 rfl rfl 0 (by decide) m_X2_areSoByKey_2 rfl rfl dX2_areSoByKey_20 ?_
          refine z_iload C dX2_areSoByKey_23 4 rfl ?_
          refine z_ald C 1 rfl (z_ixN e4 (z_jlt e4 (by omega) (by decide) c16) (by decide)) dX2_areSoByKey_25 ?_
          refine z_istore C [(0, .ref h2), (1, .ref h4), (2, .int a), (3, .int b), (4, .int x4_3), (5, .int (rp x4_3.toNatClampNeg))] dX2_areSoByKey_26 (by decide) [1, 2, 3, 4, 5, 0] rfl ?_
          refine z_iload_n C dX2_areSoByKey_28 rfl 2 rfl ?_
          refine z_aload_n C dX2_areSoByKey_29 rfl 1 rfl ?_
          refine z_iload C dX2_areSoByKey_30 5 rfl ?_
          refine z_cVR (As := [.int (rp x4_3.toNatClampNeg)]) C (c_X4_turnAt l D cI cO h4 a1 a2 a3 pn sl dr nw kd bd (rp x4_3.toNatClampNeg)) (cwV 1 C.2.2.2.2.1 gX2_areSoByKey_X4_turnAt rfl rfl rfl hdV_X4_turnAt ⟨Nat.le_of_ble_eq_true rfl, Nat.le_of_ble_eq_true rfl⟩) [3, 4, 5] rfl rfl 3 rfl rfl rfl _ rfl (Nat.le_of_ble_eq_true rfl) ⟨Nat.zero_le _, Nat.zero_le _⟩ dX2_areSoByKey_32 ?_
          generalize hu32 : (F_X4_turnAt pn kd bd (rp x4_3.toNatClampNeg)) = u32 at hf ⊢
          refine z_iload_n C dX2_areSoByKey_35 rfl 3 rfl ?_
          refine z_aload_n C dX2_areSoByKey_36 rfl 1 rfl ?_
          refine z_iload C dX2_areSoByKey_37 5 rfl ?_
          refine z_cVR (As := [.int (rp x4_3.toNatClampNeg)]) C (c_X4_yearAt l D cI cO h4 a1 a2 a3 pn sl dr nw yr (rp x4_3.toNatClampNeg)) (cwV 1 C.2.2.2.2.1 gX2_areSoByKey_X4_yearAt rfl rfl rfl hdV_X4_yearAt ⟨Nat.le_of_ble_eq_true rfl, Nat.le_of_ble_eq_true rfl⟩) [3, 6] rfl rfl 3 rfl rfl rfl _ rfl (Nat.le_of_ble_eq_true rfl) ⟨Nat.zero_le _, Nat.zero_le _⟩ dX2_areSoByKey_39 ?_
          generalize hu39 : (F_X4_yearAt pn yr (rp x4_3.toNatClampNeg)) = u39 at hf ⊢
          refine z_cNR (As := [.int a, .int u32, .int b, .int u39]) C (c_X5_wishOf l D cI cO a u32 b u39) ⟨va_cnB 4 C.2.2.2.2.1 gX2_areSoByKey_X5_wishOf_n37 rfl rfl rfl (zN_6 C.2.2.2.2.2.2) (C.2.2.2.2.1 _ m_X2_areSoByKey_17) hdS_X5_wishOf ⟨Nat.le_of_ble_eq_true rfl, Nat.le_of_ble_eq_true rfl⟩, C.2.2.2.2.1 _ m_X2_areSoByKey_24, trivial⟩ [] rfl rfl rfl _ rfl (Nat.le_of_ble_eq_true rfl) ⟨Nat.zero_le _, Nat.zero_le _⟩ dX2_areSoByKey_42 ?_
          generalize hu42 : (F_X5_wishOf a u32 b u39) = u42 at hf ⊢
          refine z_aload_n C dX2_areSoByKey_45 rfl 0 rfl ?_
          refine z_get (T := TX2) (v := .ref e2) C i_X2_areSoByKey_2 0 rfl rfl 1 (by decide) m_X2_areSoByKey_3 rfl rfl dX2_areSoByKey_46 ?_
          refine z_iload C dX2_areSoByKey_49 4 rfl ?_
          refine z_ald C 2 rfl (by subst hu42 hu39 hu32; exact (z_ixN e4 (z_jlt e4 (by omega) (by decide) c16) (by decide))) dX2_areSoByKey_51 ?_
          refine z_icmp_eq (tgt := 57) C dX2_areSoByKey_52 (by decide) (fun c52 => ?_) (fun c52 => ?_)
          · rw [if_pos c52] at hf
            have b52 := c52
            rw [← hu42] at c52
            refine z_iinc (v := (x4_3 + (1 : Int32))) C [(0, .ref h2), (1, .ref h4), (2, .int a), (3, .int b), (4, .int (x4_3 + (1 : Int32))), (5, .int (rp x4_3.toNatClampNeg))] dX2_areSoByKey_57 4 rfl (by rfl) (by decide) [1, 2, 3, 4, 0, 5] rfl ?_
            refine z_goto (tgt := 3) C dX2_areSoByKey_60 (by decide) ?_
            refine z_ls [(0, .ref h2), (1, .ref h4), (2, .int a), (3, .int b), (4, .int (x4_3 + (1 : Int32)))] [0, 1, 2, 3, 4] rfl ?_
            exact ih3 (j + 1) (x4_3 + (1 : Int32)) (by subst hu42 hu39 hu32; exact (by rw [e4]; exact nI_1 j)) (by subst hu42 hu39 hu32; exact (by have := z_jlt (n := 8) e4 (by omega) (by decide) c16; omega)) (by omega) hf
          · rw [if_neg c52] at hf
            have b52 := c52
            rw [← hu42] at c52
            refine z_iconst (v := (0 : Int32)) C dX2_areSoByKey_55 (by decide) ?_
            exact z_zretR C hr hlk rfl (by rw [hf]) dX2_areSoByKey_56
  exact L3 9 0 (0 : Int32) nI_0.symm (Nat.zero_le _) (by omega) hf
