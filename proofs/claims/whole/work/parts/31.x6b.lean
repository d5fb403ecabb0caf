-- X6_areSo
theorem i_X6_areSo_6 : ∀ w ∈ u_ws RX6 TX6 30, w ∈ wsX6_areSo := by decide +kernel
theorem m_X6_areSo_1 : Cond.fieldLink RX6 135 "WishPinsModel" "readings" "I" ∈ wsX6_areSo := List.mem_of_getElem? (i := 1) rfl
theorem m_X6_areSo_2 : Cond.fieldLink RX6 40 "WishPinsModel" "readingOf" "[I" ∈ wsX6_areSo := List.mem_of_getElem? (i := 2) rfl
theorem m_X6_areSo_3 : Cond.fieldLink RX6 43 "WishPinsModel" "readingWas" "[I" ∈ wsX6_areSo := List.mem_of_getElem? (i := 3) rfl
def F_X6_areSo_k4 (x1_4 : Int32) (x2_4 : Int32) : Int32 :=
  x1_4
def F_X6_areSo_l4 (sl : Int32) (dr : Int32) (rg : Int32) (ko : Nat → Int32) (bo : Nat → Int32) (yo : Nat → Int32) (ro : Nat → Int32) (rv : Nat → Int32) (K_ : Int32 → Int32 → Int32) : Nat → Int32 → Int32 → Int32
  | 0, x1_4, x2_4 => K_ x1_4 x2_4
  | d4 + 1, x1_4, x2_4 => (if rg ≤ x2_4 then (K_ x1_4 x2_4) else (if x1_4 = 0 then (F_X6_areSo_l4 sl dr rg ko bo yo ro rv K_ d4 (0 : Int32) (x2_4 + (1 : Int32))) else (if (F_X6_wishOf sl dr ko bo yo (ro x2_4.toNatClampNeg)) = (rv x2_4.toNatClampNeg) then (F_X6_areSo_l4 sl dr rg ko bo yo ro rv K_ d4 (1 : Int32) (x2_4 + (1 : Int32))) else (F_X6_areSo_l4 sl dr rg ko bo yo ro rv K_ d4 (0 : Int32) (x2_4 + (1 : Int32))))))
def F_X6_areSo (sl : Int32) (dr : Int32) (rg : Int32) (ko : Nat → Int32) (bo : Nat → Int32) (yo : Nat → Int32) (ro : Nat → Int32) (rv : Nat → Int32) : Int32 :=
  (F_X6_areSo_l4 sl dr rg ko bo yo ro rv F_X6_areSo_k4 9 (1 : Int32) (0 : Int32))
set_option maxHeartbeats 4000000 in
set_option maxRecDepth 100000 in
theorem c_X6_areSo (l : Launch) (D : va_G) (cI cO : ClassId) (h6 : Nat) (q : Nat → Nat) (fl : Int32) (pn : Int32) (sl : Int32) (dr : Int32) (yn : Int32) (ra : Int32) (rp : Int32) (rs : Int32) (rd : Int32) (ry : Int32) (pk : Int32) (yk : Int32) (rg : Int32) (tc : Int32) (ko : Nat → Int32) (bo : Nat → Int32) (yo : Nat → Int32) (ro : Nat → Int32) (rv : Nat → Int32) (nr : Nat) (hrg : rg = nI nr) (hnr : nr ≤ 8) (hro : ∀ i, i < nr → vp_in (ro i) 9) : zR l yX6_areSo wsX6_areSo ({ frames := 3, cells := 0, slots := 0, locals := 63 } : Room) D cI cO [.ref h6] [(h6, .inr (6, fM fl pn sl dr yn ra rp rs rd ry pk yk rg tc q)), ((q 5), .inl (cI, 9, .inl ko)), ((q 6), .inl (cI, 9, .inl bo)), ((q 7), .inl (cI, 9, .inl yo)), ((q 23), .inl (cI, 8, .inl ro)), ((q 24), .inl (cI, 8, .inl rv))] (some (.int (F_X6_areSo sl dr rg ko bo yo ro rv))) := by
  refine zR_of (nL := 3) (cc := cX6_areSo) (ret := some .boolean) (lv := [(0, .ref h6)]) (by decide +kernel) rfl (Nat.le_of_ble_eq_true rfl) rfl (fun p e s m args below meth c C hr hlk => ?_)
  have hf := F_X6_areSo.eq_1 sl dr rg ko bo yo ro rv
  refine z_iconst (v := (1 : Int32)) C dX6_areSo_0 (by decide) ?_
  refine z_istore_n C [(0, .ref h6), (1, .int (1 : Int32))] dX6_areSo_1 rfl (by decide) [1, 0] rfl ?_
  refine z_iconst (v := (0 : Int32)) C dX6_areSo_2 (by decide) ?_
  refine z_istore_n C [(0, .ref h6), (1, .int (1 : Int32)), (2, .int (0 : Int32))] dX6_areSo_3 rfl (by decide) [1, 2, 0] rfl ?_
  have X4 : ∀ (x1_4 : Int32) (x2_4 : Int32) (hbx : x1_4 = 0 ∨ x1_4 = 1), F_X6_areSo sl dr rg ko bo yo ro rv = F_X6_areSo_k4 x1_4 x2_4 → zG p l e ({ frames := 3, cells := 0, slots := 0, locals := 63 } : Room) s m args below meth c D (fun _ => True) (zXr s) 3 0 0 (MQ below (zQr (some (.int (F_X6_areSo sl dr rg ko bo yo ro rv)))) args s 0 0 (fun _ => False)) 47 [(0, .ref h6), (1, .int x1_4), (2, .int x2_4)] [] [(h6, .inr (6, fM fl pn sl dr yn ra rp rs rd ry pk yk rg tc q)), ((q 5), .inl (cI, 9, .inl ko)), ((q 6), .inl (cI, 9, .inl bo)), ((q 7), .inl (cI, 9, .inl yo)), ((q 23), .inl (cI, 8, .inl ro)), ((q 24), .inl (cI, 8, .inl rv))] := by
    intro x1_4 x2_4 hbx hf
    rw [F_X6_areSo_k4] at hf
    skip
    refine z_iload_n C dX6_areSo_47 rfl 1 rfl ?_
    exact z_zretR C hr hlk (z_bool hbx) (by rw [hf]) dX6_areSo_48
  have L4 : ∀ (d4 : Nat) (j : Nat) (x1_4 : Int32) (x2_4 : Int32) (e2 : x2_4 = nI j) (hj : j ≤ nr) (hd : nr < j + d4) (hb : x1_4 = 0 ∨ x1_4 = 1), F_X6_areSo sl dr rg ko bo yo ro rv = F_X6_areSo_l4 sl dr rg ko bo yo ro rv F_X6_areSo_k4 d4 x1_4 x2_4 → zG p l e ({ frames := 3, cells := 0, slots := 0, locals := 63 } : Room) s m args below meth c D (fun _ => True) (zXr s) 3 0 0 (MQ below (zQr (some (.int (F_X6_areSo sl dr rg ko bo yo ro rv)))) args s 0 0 (fun _ => False)) 4 [(0, .ref h6), (1, .int x1_4), (2, .int x2_4)] [] [(h6, .inr (6, fM fl pn sl dr yn ra rp rs rd ry pk yk rg tc q)), ((q 5), .inl (cI, 9, .inl ko)), ((q 6), .inl (cI, 9, .inl bo)), ((q 7), .inl (cI, 9, .inl yo)), ((q 23), .inl (cI, 8, .inl ro)), ((q 24), .inl (cI, 8, .inl rv))] := by
    intro d4
    induction d4 with
    | zero =>
      intro j x1_4 x2_4 e2 hj hd hb hf
      exfalso; omega
    | succ d4 ih4 =>
      intro j x1_4 x2_4 e2 hj hd hb hf
      rw [F_X6_areSo_l4] at hf
      skip
      refine z_iload_n C dX6_areSo_4 rfl 2 rfl ?_
      refine z_aload_n C dX6_areSo_5 rfl 0 rfl ?_
      refine z_get (T := TX6) (v := .int rg) C i_X6_areSo_6 0 rfl rfl 22 (by decide) m_X6_areSo_1 rfl rfl dX6_areSo_6 ?_
      refine z_icmp_ge (tgt := 47) C dX6_areSo_9 (by decide) (fun c9 => ?_) (fun c9 => ?_)
      · rw [if_pos c9] at hf
        exact X4 x1_4 x2_4 hb hf
      · rw [if_neg c9] at hf
        refine z_iload_n C dX6_areSo_12 rfl 1 rfl ?_
        refine z_if_eq (tgt := 39) C dX6_areSo_13 (by decide) (fun c13 => ?_) (fun c13 => ?_)
        · rw [if_pos c13] at hf
          refine z_iconst (v := (0 : Int32)) C dX6_areSo_39 (by decide) ?_
          refine z_istore_n C [(0, .ref h6), (1, .int (0 : Int32)), (2, .int x2_4)] dX6_areSo_40 rfl (by decide) [1, 0, 2] rfl ?_
          refine z_iinc (v := (x2_4 + (1 : Int32))) C [(0, .ref h6), (1, .int (0 : Int32)), (2, .int (x2_4 + (1 : Int32)))] dX6_areSo_41 2 rfl (by rfl) (by decide) [1, 2, 0] rfl ?_
          refine z_goto (tgt := 4) C dX6_areSo_44 (by decide) ?_
          exact ih4 (j + 1) (0 : Int32) (x2_4 + (1 : Int32)) (by rw [e2]; exact nI_1 j) (by have := z_jlt e2 (by omega) (z_tiN hrg (by omega)) c9; omega) (by omega) (by first | exact Or.inl rfl | exact Or.inr rfl) hf
        · rw [if_neg c13] at hf
          refine z_aload_n C dX6_areSo_16 rfl 0 rfl ?_
          refine z_aload_n C dX6_areSo_17 rfl 0 rfl ?_
          refine z_get (T := TX6) (v := .ref (q 23)) C i_X6_areSo_6 0 rfl rfl 23 (by decide) m_X6_areSo_2 rfl rfl dX6_areSo_18 ?_
          refine z_iload_n C dX6_areSo_21 rfl 2 rfl ?_
          refine z_ald C 4 rfl (z_ixN e2 (Nat.lt_of_lt_of_le (z_jlt e2 (by omega) (z_tiN hrg (by omega)) c9) hnr) (by decide)) dX6_areSo_22 ?_
          refine z_cVR (As := [.int (ro x2_4.toNatClampNeg)]) C (c_X6_wishOf l D cI cO h6 q fl pn sl dr yn ra rp rs rd ry pk yk rg tc ko bo yo (ro x2_4.toNatClampNeg) (z_atN (P := fun v => vp_in v 9) e2 (by omega) (hro j (z_jlt e2 (by omega) (z_tiN hrg (by omega)) c9)))) (cwV 1 C.2.2.2.2.1 gX6_areSo_X6_wishOf rfl rfl rfl hdV_X6_wishOf ⟨Nat.le_of_ble_eq_true rfl, Nat.le_of_ble_eq_true rfl⟩) [0, 1, 2, 3] rfl rfl 0 rfl rfl rfl _ rfl (Nat.le_of_ble_eq_true rfl) ⟨Nat.zero_le _, Nat.zero_le _⟩ dX6_areSo_23 ?_
          generalize hu23 : (F_X6_wishOf sl dr ko bo yo (ro x2_4.toNatClampNeg)) = u23 at hf ⊢
          refine z_aload_n C dX6_areSo_26 rfl 0 rfl ?_
          refine z_get (T := TX6) (v := .ref (q 24)) C i_X6_areSo_6 0 rfl rfl 24 (by decide) m_X6_areSo_3 rfl rfl dX6_areSo_27 ?_
          refine z_iload_n C dX6_areSo_30 rfl 2 rfl ?_
          refine z_ald C 5 rfl (by subst hu23; exact (z_ixN e2 (Nat.lt_of_lt_of_le (z_jlt e2 (by omega) (z_tiN hrg (by omega)) c9) hnr) (by decide))) dX6_areSo_31 ?_
          refine z_icmp_ne (tgt := 39) C dX6_areSo_32 (by decide) (fun c32 => ?_) (fun c32 => ?_)
          · rw [if_neg c32] at hf
            have b32 := c32
            rw [← hu23] at c32
            refine z_iconst (v := (0 : Int32)) C dX6_areSo_39 (by decide) ?_
            refine z_istore_n C [(0, .ref h6), (1, .int (0 : Int32)), (2, .int x2_4)] dX6_areSo_40 rfl (by decide) [1, 0, 2] rfl ?_
            refine z_iinc (v := (x2_4 + (1 : Int32))) C [(0, .ref h6), (1, .int (0 : Int32)), (2, .int (x2_4 + (1 : Int32)))] dX6_areSo_41 2 rfl (by rfl) (by decide) [1, 2, 0] rfl ?_
            refine z_goto (tgt := 4) C dX6_areSo_44 (by decide) ?_
            exact ih4 (j + 1) (0 : Int32) (x2_4 + (1 : Int32)) (by subst hu23; exact (by rw [e2]; exact nI_1 j)) (by subst hu23; exact (by have := z_jlt e2 (by omega) (z_tiN hrg (by omega)) c9; omega)) (by omega) (by subst hu23; exact (by first | exact Or.inl rfl | exact Or.inr rfl)) hf
          · rw [if_pos c32] at hf
            have b32 := c32
            rw [← hu23] at c32
            refine z_iconst (v := (1 : Int32)) C dX6_areSo_35 (by decide) ?_
            refine z_goto (tgt := 40) C dX6_areSo_36 (by decide) ?_
            refine z_istore_n C [(0, .ref h6), (1, .int (1 : Int32)), (2, .int x2_4)] dX6_areSo_40 rfl (by decide) [1, 0, 2] rfl ?_
            refine z_iinc (v := (x2_4 + (1 : Int32))) C [(0, .ref h6), (1, .int (1 : Int32)), (2, .int (x2_4 + (1 : Int32)))] dX6_areSo_41 2 rfl (by rfl) (by decide) [1, 2, 0] rfl ?_
            refine z_goto (tgt := 4) C dX6_areSo_44 (by decide) ?_
            exact ih4 (j + 1) (1 : Int32) (x2_4 + (1 : Int32)) (by subst hu23; exact (by rw [e2]; exact nI_1 j)) (by subst hu23; exact (by have := z_jlt e2 (by omega) (z_tiN hrg (by omega)) c9; omega)) (by omega) (by subst hu23; exact (by first | exact Or.inl rfl | exact Or.inr rfl)) hf
  exact L4 9 0 (1 : Int32) (0 : Int32) nI_0.symm (Nat.zero_le _) (by omega) (Or.inr rfl) hf
-- X6_bends
theorem i_X6_bends_6 : ∀ w ∈ u_ws RX6 TX6 30, w ∈ wsX6_bends := by decide +kernel
theorem m_X6_bends_1 : Cond.fieldLink RX6 13 "WishPinsModel" "bendOf" "[I" ∈ wsX6_bends := List.mem_of_getElem? (i := 1) rfl
def F_X6_bends_k22 (bo : Nat → Int32) (k : Int32) (x3_22 : Int32) (x4_22 : Int32) (bo_22 : Nat → Int32) : Int32 × (Nat → Int32) :=
  (x3_22, (upd bo_22 k.toNatClampNeg (bo k.toNatClampNeg)))
def F_X6_bends_l22 (sl : Int32) (dr : Int32) (rg : Int32) (ko : Nat → Int32) (yo : Nat → Int32) (ro : Nat → Int32) (rv : Nat → Int32) (k : Int32) (K_ : Int32 → Int32 → (Nat → Int32) → Int32 × (Nat → Int32)) : Nat → Int32 → Int32 → (Nat → Int32) → Int32 × (Nat → Int32)
  | 0, x3_22, x4_22, bo_22 => K_ x3_22 x4_22 bo_22
  | d22 + 1, x3_22, x4_22, bo_22 => (if (10 : Int32) ≤ x4_22 then (K_ x3_22 x4_22 bo_22) else (if (F_X6_areSo sl dr rg ko (upd bo_22 k.toNatClampNeg x4_22) yo ro rv) = 0 then (F_X6_bends_l22 sl dr rg ko yo ro rv k K_ d22 (x3_22 ||| (0 : Int32)) (x4_22 + (1 : Int32)) (upd bo_22 k.toNatClampNeg x4_22)) else (F_X6_bends_l22 sl dr rg ko yo ro rv k K_ d22 (x3_22 ||| ((1 : Int32) <<< (x4_22 &&& 31))) (x4_22 + (1 : Int32)) (upd bo_22 k.toNatClampNeg x4_22))))
def F_X6_bends (pn : Int32) (sl : Int32) (dr : Int32) (rg : Int32) (ko : Nat → Int32) (bo : Nat → Int32) (yo : Nat → Int32) (ro : Nat → Int32) (rv : Nat → Int32) (k : Int32) : Int32 × (Nat → Int32) :=
  (if (F_X6_noPin pn k) = 0 then (F_X6_bends_l22 sl dr rg ko yo ro rv k (F_X6_bends_k22 bo k) 11 (0 : Int32) (0 : Int32) bo) else ((-1 : Int32), bo))
set_option maxHeartbeats 4000000 in
set_option maxRecDepth 100000 in
theorem c_X6_bends (l : Launch) (D : va_G) (cI cO : ClassId) (h6 : Nat) (q : Nat → Nat) (fl : Int32) (pn : Int32) (sl : Int32) (dr : Int32) (yn : Int32) (ra : Int32) (rp : Int32) (rs : Int32) (rd : Int32) (ry : Int32) (pk : Int32) (yk : Int32) (rg : Int32) (tc : Int32) (ko : Nat → Int32) (bo : Nat → Int32) (yo : Nat → Int32) (ro : Nat → Int32) (rv : Nat → Int32) (k : Int32) (np : Nat) (nr : Nat) (hpn : pn = nI np) (hnp : np ≤ 9) (hrg : rg = nI nr) (hnr : nr ≤ 8) (hro : ∀ i, i < nr → vp_in (ro i) 9) : zW l yX6_bends wsX6_bends ({ frames := 4, cells := 0, slots := 0, locals := 85 } : Room) D cI cO [.ref h6, .int k] [(h6, .inr (6, fM fl pn sl dr yn ra rp rs rd ry pk yk rg tc q)), ((q 5), .inl (cI, 9, .inl ko)), ((q 6), .inl (cI, 9, .inl bo)), ((q 7), .inl (cI, 9, .inl yo)), ((q 23), .inl (cI, 8, .inl ro)), ((q 24), .inl (cI, 8, .inl rv))] [(h6, .inr (6, fM fl pn sl dr yn ra rp rs rd ry pk yk rg tc q)), ((q 5), .inl (cI, 9, .inl ko)), ((q 6), .inl (cI, 9, .inl ((F_X6_bends pn sl dr rg ko bo yo ro rv k).2))), ((q 7), .inl (cI, 9, .inl yo)), ((q 23), .inl (cI, 8, .inl ro)), ((q 24), .inl (cI, 8, .inl rv))] (some (.int ((F_X6_bends pn sl dr rg ko bo yo ro rv k).1))) := by
  refine zW_of (nL := 5) (cc := cX6_bends) (ret := some .int) (lv := [(0, .ref h6), (1, .int k)]) (by decide +kernel) rfl (Nat.le_of_ble_eq_true rfl) rfl (fun p e s m args below meth c C hr hlk => ?_)
  have hf := F_X6_bends.eq_1 pn sl dr rg ko bo yo ro rv k
  refine z_aload_n C dX6_bends_0 rfl 0 rfl ?_
  refine z_iload_n C dX6_bends_1 rfl 1 rfl ?_
  refine z_cVR (As := [.int k]) C (c_X6_noPin l D cI cO h6 q fl pn sl dr yn ra rp rs rd ry pk yk rg tc k) (cwV 1 C.2.2.2.2.1 gX6_bends_X6_noPin rfl rfl rfl hdV_X6_noPin ⟨Nat.le_of_ble_eq_true rfl, Nat.le_of_ble_eq_true rfl⟩) [0] rfl rfl 0 rfl rfl rfl _ rfl (Nat.le_of_ble_eq_true rfl) ⟨Nat.zero_le _, Nat.zero_le _⟩ dX6_bends_2 ?_
  generalize hu2 : (F_X6_noPin pn k) = u2 at hf ⊢
  refine z_if_eq (tgt := 10) C dX6_bends_5 (by decide) (fun c5 => ?_) (fun c5 => ?_)
  · rw [if_pos c5] at hf
    have b5 := c5
    rw [← hu2] at c5
    refine z_aload_n C dX6_bends_10 rfl 0 rfl ?_
    refine z_get (T := TX6) (v := .ref (q 6)) C i_X6_bends_6 0 rfl rfl 6 (by decide) m_X6_bends_1 rfl rfl dX6_bends_11 ?_
    refine z_iload_n C dX6_bends_14 rfl 1 rfl ?_
    refine z_ald C 2 rfl (by subst hu2; exact (noPin_ix hpn hnp c5)) dX6_bends_15 ?_
    refine z_istore_n C [(0, .ref h6), (1, .int k), (2, .int (bo k.toNatClampNeg))] dX6_bends_16 rfl (by decide) [1, 2, 0] rfl ?_
    refine z_iconst (v := (0 : Int32)) C dX6_bends_17 (by decide) ?_
    refine z_istore_n C [(0, .ref h6), (1, .int k), (2, .int (bo k.toNatClampNeg)), (3, .int (0 : Int32))] dX6_bends_18 rfl (by decide) [1, 2, 3, 0] rfl ?_
    refine z_iconst (v := (0 : Int32)) C dX6_bends_19 (by decide) ?_
    refine z_istore C [(0, .ref h6), (1, .int k), (2, .int (bo k.toNatClampNeg)), (3, .int (0 : Int32)), (4, .int (0 : Int32))] dX6_bends_20 (by decide) [1, 2, 3, 4, 0] rfl ?_
    have X22 : ∀ (x3_22 : Int32) (x4_22 : Int32) (bo_22 : Nat → Int32), F_X6_bends pn sl dr rg ko bo yo ro rv k = (F_X6_bends_k22 bo k) x3_22 x4_22 bo_22 → zG p l e ({ frames := 4, cells := 0, slots := 0, locals := 85 } : Room) s m args below meth c D (zA [(h6, .inr (6, fM fl pn sl dr yn ra rp rs rd ry pk yk rg tc q)), ((q 5), .inl (cI, 9, .inl ko)), ((q 6), .inl (cI, 9, .inl bo)), ((q 7), .inl (cI, 9, .inl yo)), ((q 23), .inl (cI, 8, .inl ro)), ((q 24), .inl (cI, 8, .inl rv))]) (zXw (zA [(h6, .inr (6, fM fl pn sl dr yn ra rp rs rd ry pk yk rg tc q)), ((q 5), .inl (cI, 9, .inl ko)), ((q 6), .inl (cI, 9, .inl bo)), ((q 7), .inl (cI, 9, .inl yo)), ((q 23), .inl (cI, 8, .inl ro)), ((q 24), .inl (cI, 8, .inl rv))]) s.heap) 5 0 0 (MQ below (zQw D [(h6, .inr (6, fM fl pn sl dr yn ra rp rs rd ry pk yk rg tc q)), ((q 5), .inl (cI, 9, .inl ko)), ((q 6), .inl (cI, 9, .inl ((F_X6_bends pn sl dr rg ko bo yo ro rv k).2))), ((q 7), .inl (cI, 9, .inl yo)), ((q 23), .inl (cI, 8, .inl ro)), ((q 24), .inl (cI, 8, .inl rv))] (zA [(h6, .inr (6, fM fl pn sl dr yn ra rp rs rd ry pk yk rg tc q)), ((q 5), .inl (cI, 9, .inl ko)), ((q 6), .inl (cI, 9, .inl bo)), ((q 7), .inl (cI, 9, .inl yo)), ((q 23), .inl (cI, 8, .inl ro)), ((q 24), .inl (cI, 8, .inl rv))]) (some (.int ((F_X6_bends pn sl dr rg ko bo yo ro rv k).1)))) args s 0 0 (zA [(h6, .inr (6, fM fl pn sl dr yn ra rp rs rd ry pk yk rg tc q)), ((q 5), .inl (cI, 9, .inl ko)), ((q 6), .inl (cI, 9, .inl bo)), ((q 7), .inl (cI, 9, .inl yo)), ((q 23), .inl (cI, 8, .inl ro)), ((q 24), .inl (cI, 8, .inl rv))])) 61 [(0, .ref h6), (1, .int k), (2, .int (bo k.toNatClampNeg)), (3, .int x3_22), (4, .int x4_22)] [] [(h6, .inr (6, fM fl pn sl dr yn ra rp rs rd ry pk yk rg tc q)), ((q 5), .inl (cI, 9, .inl ko)), ((q 6), .inl (cI, 9, .inl bo_22)), ((q 7), .inl (cI, 9, .inl yo)), ((q 23), .inl (cI, 8, .inl ro)), ((q 24), .inl (cI, 8, .inl rv))] := by
      intro x3_22 x4_22 bo_22 hf
      rw [F_X6_bends_k22] at hf
      skip
      refine z_aload_n C dX6_bends_61 rfl 0 rfl ?_
      refine z_get (T := TX6) (v := .ref (q 6)) C i_X6_bends_6 0 rfl rfl 6 (by decide) m_X6_bends_1 rfl rfl dX6_bends_62 ?_
      refine z_iload_n C dX6_bends_65 rfl 1 rfl ?_
      refine z_iload_n C dX6_bends_66 rfl 2 rfl ?_
      refine z_ast C [(h6, .inr (6, fM fl pn sl dr yn ra rp rs rd ry pk yk rg tc q)), ((q 5), .inl (cI, 9, .inl ko)), ((q 6), .inl (cI, 9, .inl (upd bo_22 k.toNatClampNeg (bo k.toNatClampNeg)))), ((q 7), .inl (cI, 9, .inl yo)), ((q 23), .inl (cI, 8, .inl ro)), ((q 24), .inl (cI, 8, .inl rv))] 2 rfl (by subst hu2; exact (noPin_ix hpn hnp c5)) dX6_bends_67 rfl ?_
      refine z_iload_n C dX6_bends_68 rfl 3 rfl ?_
      exact z_iretW C hr hlk (by rw [hf]) (by rw [hf]) dX6_bends_69
    have L22 : ∀ (d22 : Nat) (j : Nat) (x3_22 : Int32) (x4_22 : Int32) (bo_22 : Nat → Int32) (e4 : x4_22 = nI j) (hj : j ≤ 10) (hd : 10 < j + d22), F_X6_bends pn sl dr rg ko bo yo ro rv k = F_X6_bends_l22 sl dr rg ko yo ro rv k (F_X6_bends_k22 bo k) d22 x3_22 x4_22 bo_22 → zG p l e ({ frames := 4, cells := 0, slots := 0, locals := 85 } : Room) s m args below meth c D (zA [(h6, .inr (6, fM fl pn sl dr yn ra rp rs rd ry pk yk rg tc q)), ((q 5), .inl (cI, 9, .inl ko)), ((q 6), .inl (cI, 9, .inl bo)), ((q 7), .inl (cI, 9, .inl yo)), ((q 23), .inl (cI, 8, .inl ro)), ((q 24), .inl (cI, 8, .inl rv))]) (zXw (zA [(h6, .inr (6, fM fl pn sl dr yn ra rp rs rd ry pk yk rg tc q)), ((q 5), .inl (cI, 9, .inl ko)), ((q 6), .inl (cI, 9, .inl bo)), ((q 7), .inl (cI, 9, .inl yo)), ((q 23), .inl (cI, 8, .inl ro)), ((q 24), .inl (cI, 8, .inl rv))]) s.heap) 5 0 0 (MQ below (zQw D [(h6, .inr (6, fM fl pn sl dr yn ra rp rs rd ry pk yk rg tc q)), ((q 5), .inl (cI, 9, .inl ko)), ((q 6), .inl (cI, 9, .inl ((F_X6_bends pn sl dr rg ko bo yo ro rv k).2))), ((q 7), .inl (cI, 9, .inl yo)), ((q 23), .inl (cI, 8, .inl ro)), ((q 24), .inl (cI, 8, .inl rv))] (zA [(h6, .inr (6, fM fl pn sl dr yn ra rp rs rd ry pk yk rg tc q)), ((q 5), .inl (cI, 9, .inl ko)), ((q 6), .inl (cI, 9, .inl bo)), ((q 7), .inl (cI, 9, .inl yo)), ((q 23), .inl (cI, 8, .inl ro)), ((q 24), .inl (cI, 8, .inl rv))]) (some (.int ((F_X6_bends pn sl dr rg ko bo yo ro rv k).1)))) args s 0 0 (zA [(h6, .inr (6, fM fl pn sl dr yn ra rp rs rd ry pk yk rg tc q)), ((q 5), .inl (cI, 9, .inl ko)), ((q 6), .inl (cI, 9, .inl bo)), ((q 7), .inl (cI, 9, .inl yo)), ((q 23), .inl (cI, 8, .inl ro)), ((q 24), .inl (cI, 8, .inl rv))])) 22 [(0, .ref h6), (1, .int k), (2, .int (bo k.toNatClampNeg)), (3, .int x3_22), (4, .int x4_22)] [] [(h6, .inr (6, fM fl pn sl dr yn ra rp rs rd ry pk yk rg tc q)), ((q 5), .inl (cI, 9, .inl ko)), ((q 6), .inl (cI, 9, .inl bo_22)), ((q 7), .inl (cI, 9, .inl yo)), ((q 23), .inl (cI, 8, .inl ro)), ((q 24), .inl (cI, 8, .inl rv))] := by
      intro d22
      induction d22 with
      | zero =>
        intro j x3_22 x4_22 bo_22 e4 hj hd hf
        exfalso; omega
      | succ d22 ih22 =>
        intro j x3_22 x4_22 bo_22 e4 hj hd hf
        rw [F_X6_bends_l22] at hf
        skip
        refine z_iload C dX6_bends_22 4 rfl ?_
        refine z_bipush (v := (10 : Int32)) C dX6_bends_24 (by decide) ?_
        refine z_icmp_ge (tgt := 61) C dX6_bends_26 (by decide) (fun c26 => ?_) (fun c26 => ?_)
        · rw [if_pos c26] at hf
          exact X22 x3_22 x4_22 bo_22  hf
        · rw [if_neg c26] at hf
          refine z_aload_n C dX6_bends_29 rfl 0 rfl ?_
          refine z_get (T := TX6) (v := .ref (q 6)) C i_X6_bends_6 0 rfl rfl 6 (by decide) m_X6_bends_1 rfl rfl dX6_bends_30 ?_
          refine z_iload_n C dX6_bends_33 rfl 1 rfl ?_
          refine z_iload C dX6_bends_34 4 rfl ?_
          refine z_ast C [(h6, .inr (6, fM fl pn sl dr yn ra rp rs rd ry pk yk rg tc q)), ((q 5), .inl (cI, 9, .inl ko)), ((q 6), .inl (cI, 9, .inl (upd bo_22 k.toNatClampNeg x4_22))), ((q 7), .inl (cI, 9, .inl yo)), ((q 23), .inl (cI, 8, .inl ro)), ((q 24), .inl (cI, 8, .inl rv))] 2 rfl (by subst hu2; exact (noPin_ix hpn hnp c5)) dX6_bends_36 rfl ?_
          refine z_iload_n C dX6_bends_37 rfl 3 rfl ?_
          refine z_aload_n C dX6_bends_38 rfl 0 rfl ?_
          refine z_cVR (As := []) C (c_X6_areSo l D cI cO h6 q fl pn sl dr yn ra rp rs rd ry pk yk rg tc ko (upd bo_22 k.toNatClampNeg x4_22) yo ro rv nr (by subst hu2; exact hrg) (by subst hu2; exact hnr) (by subst hu2; exact hro)) (cwV 0 C.2.2.2.2.1 gX6_bends_X6_areSo rfl rfl rfl hdV_X6_areSo ⟨Nat.le_of_ble_eq_true rfl, Nat.le_of_ble_eq_true rfl⟩) [0, 1, 2, 3, 4, 5] rfl rfl 0 rfl rfl rfl _ rfl (Nat.le_of_ble_eq_true rfl) ⟨Nat.zero_le _, Nat.zero_le _⟩ dX6_bends_39 ?_
          generalize hu39 : (F_X6_areSo sl dr rg ko (upd bo_22 k.toNatClampNeg x4_22) yo ro rv) = u39 at hf ⊢
          refine z_if_eq (tgt := 52) C dX6_bends_42 (by decide) (fun c42 => ?_) (fun c42 => ?_)
          · rw [if_pos c42] at hf
            have b42 := c42
            rw [← hu39] at c42
            refine z_iconst (v := (0 : Int32)) C dX6_bends_52 (by decide) ?_
            refine z_ior C dX6_bends_53 ?_
            refine z_istore_n C [(0, .ref h6), (1, .int k), (2, .int (bo k.toNatClampNeg)), (3, .int (x3_22 ||| (0 : Int32))), (4, .int x4_22)] dX6_bends_54 rfl (by decide) [1, 2, 3, 0, 4] rfl ?_
            refine z_iinc (v := (x4_22 + (1 : Int32))) C [(0, .ref h6), (1, .int k), (2, .int (bo k.toNatClampNeg)), (3, .int (x3_22 ||| (0 : Int32))), (4, .int (x4_22 + (1 : Int32)))] dX6_bends_55 4 rfl (by rfl) (by decide) [1, 2, 3, 4, 0] rfl ?_
            refine z_goto (tgt := 22) C dX6_bends_58 (by decide) ?_
            exact ih22 (j + 1) (x3_22 ||| (0 : Int32)) (x4_22 + (1 : Int32)) (upd bo_22 k.toNatClampNeg x4_22) (by subst hu39 hu2; exact (by rw [e4]; exact nI_1 j)) (by subst hu39 hu2; exact (by have := z_jlt (n := 10) e4 (by omega) (by decide) c26; omega)) (by omega) hf
          · rw [if_neg c42] at hf
            have b42 := c42
            rw [← hu39] at c42
            refine z_iconst (v := (1 : Int32)) C dX6_bends_45 (by decide) ?_
            refine z_iload C dX6_bends_46 4 rfl ?_
            refine z_ishl C dX6_bends_48 ?_
            refine z_goto (tgt := 53) C dX6_bends_49 (by decide) ?_
            refine z_ior C dX6_bends_53 ?_
            refine z_istore_n C [(0, .ref h6), (1, .int k), (2, .int (bo k.toNatClampNeg)), (3, .int (x3_22 ||| ((1 : Int32) <<< (x4_22 &&& 31)))), (4, .int x4_22)] dX6_bends_54 rfl (by decide) [1, 2, 3, 0, 4] rfl ?_
            refine z_iinc (v := (x4_22 + (1 : Int32))) C [(0, .ref h6), (1, .int k), (2, .int (bo k.toNatClampNeg)), (3, .int (x3_22 ||| ((1 : Int32) <<< (x4_22 &&& 31)))), (4, .int (x4_22 + (1 : Int32)))] dX6_bends_55 4 rfl (by rfl) (by decide) [1, 2, 3, 4, 0] rfl ?_
            refine z_goto (tgt := 22) C dX6_bends_58 (by decide) ?_
            exact ih22 (j + 1) (x3_22 ||| ((1 : Int32) <<< (x4_22 &&& 31))) (x4_22 + (1 : Int32)) (upd bo_22 k.toNatClampNeg x4_22) (by subst hu39 hu2; exact (by rw [e4]; exact nI_1 j)) (by subst hu39 hu2; exact (by have := z_jlt (n := 10) e4 (by omega) (by decide) c26; omega)) (by omega) hf
    exact L22 11 0 (0 : Int32) (0 : Int32) bo (by subst hu2; exact nI_0.symm) (by subst hu2; exact (Nat.zero_le _)) (by omega) hf
  · rw [if_neg c5] at hf
    have b5 := c5
    rw [← hu2] at c5
    refine z_iconst (v := (-1 : Int32)) C dX6_bends_8 (by decide) ?_
    exact z_iretW C hr hlk (by rw [hf]) (by rw [hf]) dX6_bends_9
-- X6_kinds
theorem i_X6_kinds_6 : ∀ w ∈ u_ws RX6 TX6 30, w ∈ wsX6_kinds := by decide +kernel
theorem m_X6_kinds_1 : Cond.fieldLink RX6 7 "WishPinsModel" "kindOf" "[I" ∈ wsX6_kinds := List.mem_of_getElem? (i := 1) rfl
def F_X6_kinds_k22 (ko : Nat → Int32) (k : Int32) (x3_22 : Int32) (x4_22 : Int32) (ko_22 : Nat → Int32) : Int32 × (Nat → Int32) :=
  (x3_22, (upd ko_22 k.toNatClampNeg (ko k.toNatClampNeg)))
def F_X6_kinds_l22 (sl : Int32) (dr : Int32) (rg : Int32) (bo : Nat → Int32) (yo : Nat → Int32) (ro : Nat → Int32) (rv : Nat → Int32) (k : Int32) (K_ : Int32 → Int32 → (Nat → Int32) → Int32 × (Nat → Int32)) : Nat → Int32 → Int32 → (Nat → Int32) → Int32 × (Nat → Int32)
  | 0, x3_22, x4_22, ko_22 => K_ x3_22 x4_22 ko_22
  | d22 + 1, x3_22, x4_22, ko_22 => (if (3 : Int32) ≤ x4_22 then (K_ x3_22 x4_22 ko_22) else (if (F_X6_areSo sl dr rg (upd ko_22 k.toNatClampNeg x4_22) bo yo ro rv) = 0 then (F_X6_kinds_l22 sl dr rg bo yo ro rv k K_ d22 (x3_22 ||| (0 : Int32)) (x4_22 + (1 : Int32)) (upd ko_22 k.toNatClampNeg x4_22)) else (F_X6_kinds_l22 sl dr rg bo yo ro rv k K_ d22 (x3_22 ||| ((1 : Int32) <<< (x4_22 &&& 31))) (x4_22 + (1 : Int32)) (upd ko_22 k.toNatClampNeg x4_22))))
def F_X6_kinds (pn : Int32) (sl : Int32) (dr : Int32) (rg : Int32) (ko : Nat → Int32) (bo : Nat → Int32) (yo : Nat → Int32) (ro : Nat → Int32) (rv : Nat → Int32) (k : Int32) : Int32 × (Nat → Int32) :=
  (if (F_X6_noPin pn k) = 0 then (F_X6_kinds_l22 sl dr rg bo yo ro rv k (F_X6_kinds_k22 ko k) 4 (0 : Int32) (0 : Int32) ko) else ((-1 : Int32), ko))
set_option maxHeartbeats 4000000 in
set_option maxRecDepth 100000 in
theorem c_X6_kinds (l : Launch) (D : va_G) (cI cO : ClassId) (h6 : Nat) (q : Nat → Nat) (fl : Int32) (pn : Int32) (sl : Int32) (dr : Int32) (yn : Int32) (ra : Int32) (rp : Int32) (rs : Int32) (rd : Int32) (ry : Int32) (pk : Int32) (yk : Int32) (rg : Int32) (tc : Int32) (ko : Nat → Int32) (bo : Nat → Int32) (yo : Nat → Int32) (ro : Nat → Int32) (rv : Nat → Int32) (k : Int32) (np : Nat) (nr : Nat) (hpn : pn = nI np) (hnp : np ≤ 9) (hrg : rg = nI nr) (hnr : nr ≤ 8) (hro : ∀ i, i < nr → vp_in (ro i) 9) : zW l yX6_kinds wsX6_kinds ({ frames := 4, cells := 0, slots := 0, locals := 85 } : Room) D cI cO [.ref h6, .int k] [(h6, .inr (6, fM fl pn sl dr yn ra rp rs rd ry pk yk rg tc q)), ((q 5), .inl (cI, 9, .inl ko)), ((q 6), .inl (cI, 9, .inl bo)), ((q 7), .inl (cI, 9, .inl yo)), ((q 23), .inl (cI, 8, .inl ro)), ((q 24), .inl (cI, 8, .inl rv))] [(h6, .inr (6, fM fl pn sl dr yn ra rp rs rd ry pk yk rg tc q)), ((q 5), .inl (cI, 9, .inl ((F_X6_kinds pn sl dr rg ko bo yo ro rv k).2))), ((q 6), .inl (cI, 9, .inl bo)), ((q 7), .inl (cI, 9, .inl yo)), ((q 23), .inl (cI, 8, .inl ro)), ((q 24), .inl (cI, 8, .inl rv))] (some (.int ((F_X6_kinds pn sl dr rg ko bo yo ro rv k).1))) := by
  refine zW_of (nL := 5) (cc := cX6_kinds) (ret := some .int) (lv := [(0, .ref h6), (1, .int k)]) (by decide +kernel) rfl (Nat.le_of_ble_eq_true rfl) rfl (fun p e s m args below meth c C hr hlk => ?_)
  have hf := F_X6_kinds.eq_1 pn sl dr rg ko bo yo ro rv k
  refine z_aload_n C dX6_kinds_0 rfl 0 rfl ?_
  refine z_iload_n C dX6_kinds_1 rfl 1 rfl ?_
  refine z_cVR (As := [.int k]) C (c_X6_noPin l D cI cO h6 q fl pn sl dr yn ra rp rs rd ry pk yk rg tc k) (cwV 1 C.2.2.2.2.1 gX6_kinds_X6_noPin rfl rfl rfl hdV_X6_noPin ⟨Nat.le_of_ble_eq_true rfl, Nat.le_of_ble_eq_true rfl⟩) [0] rfl rfl 0 rfl rfl rfl _ rfl (Nat.le_of_ble_eq_true rfl) ⟨Nat.zero_le _, Nat.zero_le _⟩ dX6_kinds_2 ?_
  generalize hu2 : (F_X6_noPin pn k) = u2 at hf ⊢
  refine z_if_eq (tgt := 10) C dX6_kinds_5 (by decide) (fun c5 => ?_) (fun c5 => ?_)
  · rw [if_pos c5] at hf
    have b5 := c5
    rw [← hu2] at c5
    refine z_aload_n C dX6_kinds_10 rfl 0 rfl ?_
    refine z_get (T := TX6) (v := .ref (q 5)) C i_X6_kinds_6 0 rfl rfl 5 (by decide) m_X6_kinds_1 rfl rfl dX6_kinds_11 ?_
    refine z_iload_n C dX6_kinds_14 rfl 1 rfl ?_
    refine z_ald C 1 rfl (by subst hu2; exact (noPin_ix hpn hnp c5)) dX6_kinds_15 ?_
    refine z_istore_n C [(0, .ref h6), (1, .int k), (2, .int (ko k.toNatClampNeg))] dX6_kinds_16 rfl (by decide) [1, 2, 0] rfl ?_
    refine z_iconst (v := (0 : Int32)) C dX6_kinds_17 (by decide) ?_
    refine z_istore_n C [(0, .ref h6), (1, .int k), (2, .int (ko k.toNatClampNeg)), (3, .int (0 : Int32))] dX6_kinds_18 rfl (by decide) [1, 2, 3, 0] rfl ?_
    refine z_iconst (v := (0 : Int32)) C dX6_kinds_19 (by decide) ?_
    refine z_istore C [(0, .ref h6), (1, .int k), (2, .int (ko k.toNatClampNeg)), (3, .int (0 : Int32)), (4, .int (0 : Int32))] dX6_kinds_20 (by decide) [1, 2, 3, 4, 0] rfl ?_
    have X22 : ∀ (x3_22 : Int32) (x4_22 : Int32) (ko_22 : Nat → Int32), F_X6_kinds pn sl dr rg ko bo yo ro rv k = (F_X6_kinds_k22 ko k) x3_22 x4_22 ko_22 → zG p l e ({ frames := 4, cells := 0, slots := 0, locals := 85 } : Room) s m args below meth c D (zA [(h6, .inr (6, fM fl pn sl dr yn ra rp rs rd ry pk yk rg tc q)), ((q 5), .inl (cI, 9, .inl ko)), ((q 6), .inl (cI, 9, .inl bo)), ((q 7), .inl (cI, 9, .inl yo)), ((q 23), .inl (cI, 8, .inl ro)), ((q 24), .inl (cI, 8, .inl rv))]) (zXw (zA [(h6, .inr (6, fM fl pn sl dr yn ra rp rs rd ry pk yk rg tc q)), ((q 5), .inl (cI, 9, .inl ko)), ((q 6), .inl (cI, 9, .inl bo)), ((q 7), .inl (cI, 9, .inl yo)), ((q 23), .inl (cI, 8, .inl ro)), ((q 24), .inl (cI, 8, .inl rv))]) s.heap) 5 0 0 (MQ below (zQw D [(h6, .inr (6, fM fl pn sl dr yn ra rp rs rd ry pk yk rg tc q)), ((q 5), .inl (cI, 9, .inl ((F_X6_kinds pn sl dr rg ko bo yo ro rv k).2))), ((q 6), .inl (cI, 9, .inl bo)), ((q 7), .inl (cI, 9, .inl yo)), ((q 23), .inl (cI, 8, .inl ro)), ((q 24), .inl (cI, 8, .inl rv))] (zA [(h6, .inr (6, fM fl pn sl dr yn ra rp rs rd ry pk yk rg tc q)), ((q 5), .inl (cI, 9, .inl ko)), ((q 6), .inl (cI, 9, .inl bo)), ((q 7), .inl (cI, 9, .inl yo)), ((q 23), .inl (cI, 8, .inl ro)), ((q 24), .inl (cI, 8, .inl rv))]) (some (.int ((F_X6_kinds pn sl dr rg ko bo yo ro rv k).1)))) args s 0 0 (zA [(h6, .inr (6, fM fl pn sl dr yn ra rp rs rd ry pk yk rg tc q)), ((q 5), .inl (cI, 9, .inl ko)), ((q 6), .inl (cI, 9, .inl bo)), ((q 7), .inl (cI, 9, .inl yo)), ((q 23), .inl (cI, 8, .inl ro)), ((q 24), .inl (cI, 8, .inl rv))])) 60 [(0, .ref h6), (1, .int k), (2, .int (ko k.toNatClampNeg)), (3, .int x3_22), (4, .int x4_22)] [] [(h6, .inr (6, fM fl pn sl dr yn ra rp rs rd ry pk yk rg tc q)), ((q 5), .inl (cI, 9, .inl ko_22)), ((q 6), .inl (cI, 9, .inl bo)), ((q 7), .inl (cI, 9, .inl yo)), ((q 23), .inl (cI, 8, .inl ro)), ((q 24), .inl (cI, 8, .inl rv))] := by
      intro x3_22 x4_22 ko_22 hf
      rw [F_X6_kinds_k22] at hf
      skip
      refine z_aload_n C dX6_kinds_60 rfl 0 rfl ?_
      refine z_get (T := TX6) (v := .ref (q 5)) C i_X6_kinds_6 0 rfl rfl 5 (by decide) m_X6_kinds_1 rfl rfl dX6_kinds_61 ?_
      refine z_iload_n C dX6_kinds_64 rfl 1 rfl ?_
      refine z_iload_n C dX6_kinds_65 rfl 2 rfl ?_
      refine z_ast C [(h6, .inr (6, fM fl pn sl dr yn ra rp rs rd ry pk yk rg tc q)), ((q 5), .inl (cI, 9, .inl (upd ko_22 k.toNatClampNeg (ko k.toNatClampNeg)))), ((q 6), .inl (cI, 9, .inl bo)), ((q 7), .inl (cI, 9, .inl yo)), ((q 23), .inl (cI, 8, .inl ro)), ((q 24), .inl (cI, 8, .inl rv))] 1 rfl (by subst hu2; exact (noPin_ix hpn hnp c5)) dX6_kinds_66 rfl ?_
      refine z_iload_n C dX6_kinds_67 rfl 3 rfl ?_
      exact z_iretW C hr hlk (by rw [hf]) (by rw [hf]) dX6_kinds_68
    have L22 : ∀ (d22 : Nat) (j : Nat) (x3_22 : Int32) (x4_22 : Int32) (ko_22 : Nat → Int32) (e4 : x4_22 = nI j) (hj : j ≤ 3) (hd : 3 < j + d22), F_X6_kinds pn sl dr rg ko bo yo ro rv k = F_X6_kinds_l22 sl dr rg bo yo ro rv k (F_X6_kinds_k22 ko k) d22 x3_22 x4_22 ko_22 → zG p l e ({ frames := 4, cells := 0, slots := 0, locals := 85 } : Room) s m args below meth c D (zA [(h6, .inr (6, fM fl pn sl dr yn ra rp rs rd ry pk yk rg tc q)), ((q 5), .inl (cI, 9, .inl ko)), ((q 6), .inl (cI, 9, .inl bo)), ((q 7), .inl (cI, 9, .inl yo)), ((q 23), .inl (cI, 8, .inl ro)), ((q 24), .inl (cI, 8, .inl rv))]) (zXw (zA [(h6, .inr (6, fM fl pn sl dr yn ra rp rs rd ry pk yk rg tc q)), ((q 5), .inl (cI, 9, .inl ko)), ((q 6), .inl (cI, 9, .inl bo)), ((q 7), .inl (cI, 9, .inl yo)), ((q 23), .inl (cI, 8, .inl ro)), ((q 24), .inl (cI, 8, .inl rv))]) s.heap) 5 0 0 (MQ below (zQw D [(h6, .inr (6, fM fl pn sl dr yn ra rp rs rd ry pk yk rg tc q)), ((q 5), .inl (cI, 9, .inl ((F_X6_kinds pn sl dr rg ko bo yo ro rv k).2))), ((q 6), .inl (cI, 9, .inl bo)), ((q 7), .inl (cI, 9, .inl yo)), ((q 23), .inl (cI, 8, .inl ro)), ((q 24), .inl (cI, 8, .inl rv))] (zA [(h6, .inr (6, fM fl pn sl dr yn ra rp rs rd ry pk yk rg tc q)), ((q 5), .inl (cI, 9, .inl ko)), ((q 6), .inl (cI, 9, .inl bo)), ((q 7), .inl (cI, 9, .inl yo)), ((q 23), .inl (cI, 8, .inl ro)), ((q 24), .inl (cI, 8, .inl rv))]) (some (.int ((F_X6_kinds pn sl dr rg ko bo yo ro rv k).1)))) args s 0 0 (zA [(h6, .inr (6, fM fl pn sl dr yn ra rp rs rd ry pk yk rg tc q)), ((q 5), .inl (cI, 9, .inl ko)), ((q 6), .inl (cI, 9, .inl bo)), ((q 7), .inl (cI, 9, .inl yo)), ((q 23), .inl (cI, 8, .inl ro)), ((q 24), .inl (cI, 8, .inl rv))])) 22 [(0, .ref h6), (1, .int k), (2, .int (ko k.toNatClampNeg)), (3, .int x3_22), (4, .int x4_22)] [] [(h6, .inr (6, fM fl pn sl dr yn ra rp rs rd ry pk yk rg tc q)), ((q 5), .inl (cI, 9, .inl ko_22)), ((q 6), .inl (cI, 9, .inl bo)), ((q 7), .inl (cI, 9, .inl yo)), ((q 23), .inl (cI, 8, .inl ro)), ((q 24), .inl (cI, 8, .inl rv))] := by
      intro d22
      induction d22 with
      | zero =>
        intro j x3_22 x4_22 ko_22 e4 hj hd hf
        exfalso; omega
      | succ d22 ih22 =>
        intro j x3_22 x4_22 ko_22 e4 hj hd hf
        rw [F_X6_kinds_l22] at hf
        skip
        refine z_iload C dX6_kinds_22 4 rfl ?_
        refine z_iconst (v := (3 : Int32)) C dX6_kinds_24 (by decide) ?_
        refine z_icmp_ge (tgt := 60) C dX6_kinds_25 (by decide) (fun c25 => ?_) (fun c25 => ?_)
        · rw [if_pos c25] at hf
          exact X22 x3_22 x4_22 ko_22  hf
        · rw [if_neg c25] at hf
          refine z_aload_n C dX6_kinds_28 rfl 0 rfl ?_
          refine z_get (T := TX6) (v := .ref (q 5)) C i_X6_kinds_6 0 rfl rfl 5 (by decide) m_X6_kinds_1 rfl rfl dX6_kinds_29 ?_
          refine z_iload_n C dX6_kinds_32 rfl 1 rfl ?_
          refine z_iload C dX6_kinds_33 4 rfl ?_
          refine z_ast C [(h6, .inr (6, fM fl pn sl dr yn ra rp rs rd ry pk yk rg tc q)), ((q 5), .inl (cI, 9, .inl (upd ko_22 k.toNatClampNeg x4_22))), ((q 6), .inl (cI, 9, .inl bo)), ((q 7), .inl (cI, 9, .inl yo)), ((q 23), .inl (cI, 8, .inl ro)), ((q 24), .inl (cI, 8, .inl rv))] 1 rfl (by subst hu2; exact (noPin_ix hpn hnp c5)) dX6_kinds_35 rfl ?_
          refine z_iload_n C dX6_kinds_36 rfl 3 rfl ?_
          refine z_aload_n C dX6_kinds_37 rfl 0 rfl ?_
          refine z_cVR (As := []) C (c_X6_areSo l D cI cO h6 q fl pn sl dr yn ra rp rs rd ry pk yk rg tc (upd ko_22 k.toNatClampNeg x4_22) bo yo ro rv nr (by subst hu2; exact hrg) (by subst hu2; exact hnr) (by subst hu2; exact hro)) (cwV 0 C.2.2.2.2.1 gX6_kinds_X6_areSo rfl rfl rfl hdV_X6_areSo ⟨Nat.le_of_ble_eq_true rfl, Nat.le_of_ble_eq_true rfl⟩) [0, 1, 2, 3, 4, 5] rfl rfl 0 rfl rfl rfl _ rfl (Nat.le_of_ble_eq_true rfl) ⟨Nat.zero_le _, Nat.zero_le _⟩ dX6_kinds_38 ?_
          generalize hu38 : (F_X6_areSo sl dr rg (upd ko_22 k.toNatClampNeg x4_22) bo yo ro rv) = u38 at hf ⊢
          refine z_if_eq (tgt := 51) C dX6_kinds_41 (by decide) (fun c41 => ?_) (fun c41 => ?_)
          · rw [if_pos c41] at hf
            have b41 := c41
            rw [← hu38] at c41
            refine z_iconst (v := (0 : Int32)) C dX6_kinds_51 (by decide) ?_
            refine z_ior C dX6_kinds_52 ?_
            refine z_istore_n C [(0, .ref h6), (1, .int k), (2, .int (ko k.toNatClampNeg)), (3, .int (x3_22 ||| (0 : Int32))), (4, .int x4_22)] dX6_kinds_53 rfl (by decide) [1, 2, 3, 0, 4] rfl ?_
            refine z_iinc (v := (x4_22 + (1 : Int32))) C [(0, .ref h6), (1, .int k), (2, .int (ko k.toNatClampNeg)), (3, .int (x3_22 ||| (0 : Int32))), (4, .int (x4_22 + (1 : Int32)))] dX6_kinds_54 4 rfl (by rfl) (by decide) [1, 2, 3, 4, 0] rfl ?_
            refine z_goto (tgt := 22) C dX6_kinds_57 (by decide) ?_
            exact ih22 (j + 1) (x3_22 ||| (0 : Int32)) (x4_22 + (1 : Int32)) (upd ko_22 k.toNatClampNeg x4_22) (by subst hu38 hu2; exact (by rw [e4]; exact nI_1 j)) (by subst hu38 hu2; exact (by have := z_jlt (n := 3) e4 (by omega) (by decide) c25; omega)) (by omega) hf
          · rw [if_neg c41] at hf
            have b41 := c41
            rw [← hu38] at c41
            refine z_iconst (v := (1 : Int32)) C dX6_kinds_44 (by decide) ?_
            refine z_iload C dX6_kinds_45 4 rfl ?_
            refine z_ishl C dX6_kinds_47 ?_
            refine z_goto (tgt := 52) C dX6_kinds_48 (by decide) ?_
            refine z_ior C dX6_kinds_52 ?_
            refine z_istore_n C [(0, .ref h6), (1, .int k), (2, .int (ko k.toNatClampNeg)), (3, .int (x3_22 ||| ((1 : Int32) <<< (x4_22 &&& 31)))), (4, .int x4_22)] dX6_kinds_53 rfl (by decide) [1, 2, 3, 0, 4] rfl ?_
            refine z_iinc (v := (x4_22 + (1 : Int32))) C [(0, .ref h6), (1, .int k), (2, .int (ko k.toNatClampNeg)), (3, .int (x3_22 ||| ((1 : Int32) <<< (x4_22 &&& 31)))), (4, .int (x4_22 + (1 : Int32)))] dX6_kinds_54 4 rfl (by rfl) (by decide) [1, 2, 3, 4, 0] rfl ?_
            refine z_goto (tgt := 22) C dX6_kinds_57 (by decide) ?_
            exact ih22 (j + 1) (x3_22 ||| ((1 : Int32) <<< (x4_22 &&& 31))) (x4_22 + (1 : Int32)) (upd ko_22 k.toNatClampNeg x4_22) (by subst hu38 hu2; exact (by rw [e4]; exact nI_1 j)) (by subst hu38 hu2; exact (by have := z_jlt (n := 3) e4 (by omega) (by decide) c25; omega)) (by omega) hf
    exact L22 4 0 (0 : Int32) (0 : Int32) ko (by subst hu2; exact nI_0.symm) (by subst hu2; exact (Nat.zero_le _)) (by omega) hf
  · rw [if_neg c5] at hf
    have b5 := c5
    rw [← hu2] at c5
    refine z_iconst (v := (-1 : Int32)) C dX6_kinds_8 (by decide) ?_
    exact z_iretW C hr hlk (by rw [hf]) (by rw [hf]) dX6_kinds_9
-- X6_keys
theorem i_X6_keys_6 : ∀ w ∈ u_ws RX6 TX6 30, w ∈ wsX6_keys := by decide +kernel
theorem m_X6_keys_1 : Cond.fieldLink RX6 68 "WishPinsModel" "pins" "I" ∈ wsX6_keys := List.mem_of_getElem? (i := 1) rfl
theorem m_X6_keys_2 : Cond.constantLong RX6 117 (2) ∈ wsX6_keys := List.mem_of_getElem? (i := 2) rfl
theorem m_X6_keys_3 : Cond.fieldLink RX6 126 "WishPinsModel" "slopeNow" "I" ∈ wsX6_keys := List.mem_of_getElem? (i := 3) rfl
theorem m_X6_keys_4 : Cond.fieldLink RX6 129 "WishPinsModel" "driftNow" "I" ∈ wsX6_keys := List.mem_of_getElem? (i := 4) rfl
def F_X6_keys_k49 (w : Int32) (x4_49 : Int32) (x5_49 : Int32) (x6_49 : Int32) (x7_49 : Int32) (sl_49 : Int32) (dr_49 : Int32) : Int32 :=
  (if w = 0 then x4_49 else (if w = (1 : Int32) then x5_49 else x6_49))
def F_X6_keys_l49 (rg : Int32) (ko : Nat → Int32) (bo : Nat → Int32) (yo : Nat → Int32) (ro : Nat → Int32) (rv : Nat → Int32) (K_ : Int32 → Int32 → Int32 → Int32 → Int32 → Int32 → Int32) : Nat → Int32 → Int32 → Int32 → Int32 → Int32 → Int32 → Int32
  | 0, x4_49, x5_49, x6_49, x7_49, sl_49, dr_49 => K_ x4_49 x5_49 x6_49 x7_49 sl_49 dr_49
  | d49 + 1, x4_49, x5_49, x6_49, x7_49, sl_49, dr_49 => (if (30 : Int32) ≤ x7_49 then (K_ x4_49 x5_49 x6_49 x7_49 sl_49 dr_49) else (if (F_X6_areSo ((1 : Int32) + (x7_49 / (6 : Int32))) (x7_49 - x7_49 / (6 : Int32) * (6 : Int32)) rg ko bo yo ro rv) = 0 then (F_X6_keys_l49 rg ko bo yo ro rv K_ d49 (x4_49 + (0 : Int32)) x5_49 x6_49 (x7_49 + (1 : Int32)) ((1 : Int32) + (x7_49 / (6 : Int32))) (x7_49 - x7_49 / (6 : Int32) * (6 : Int32))) else (if 0 ≤ x5_49 then (F_X6_keys_l49 rg ko bo yo ro rv K_ d49 (x4_49 + (1 : Int32)) x5_49 (((10 : Int32) * ((1 : Int32) + (x7_49 / (6 : Int32)))) + (x7_49 - x7_49 / (6 : Int32) * (6 : Int32))) (x7_49 + (1 : Int32)) ((1 : Int32) + (x7_49 / (6 : Int32))) (x7_49 - x7_49 / (6 : Int32) * (6 : Int32))) else (F_X6_keys_l49 rg ko bo yo ro rv K_ d49 (x4_49 + (1 : Int32)) (((10 : Int32) * ((1 : Int32) + (x7_49 / (6 : Int32)))) + (x7_49 - x7_49 / (6 : Int32) * (6 : Int32))) (((10 : Int32) * ((1 : Int32) + (x7_49 / (6 : Int32)))) + (x7_49 - x7_49 / (6 : Int32) * (6 : Int32))) (x7_49 + (1 : Int32)) ((1 : Int32) + (x7_49 / (6 : Int32))) (x7_49 - x7_49 / (6 : Int32) * (6 : Int32))))))
def F_X6_keys (pn : Int32) (sl : Int32) (dr : Int32) (rg : Int32) (ko : Nat → Int32) (bo : Nat → Int32) (yo : Nat → Int32) (ro : Nat → Int32) (rv : Nat → Int32) (w : Int32) : Int32 :=
  (if pn = 0 then (-3 : Int32) else (if (F_X6_in w.toInt64 (0 : Int64) (2 : Int64)) = 0 then (-2 : Int32) else (F_X6_keys_l49 rg ko bo yo ro rv (F_X6_keys_k49 w) 31 (0 : Int32) (-9 : Int32) (-9 : Int32) (0 : Int32) sl dr)))
set_option maxHeartbeats 4000000 in
set_option maxRecDepth 100000 in
theorem c_X6_keys (l : Launch) (D : va_G) (cI cO : ClassId) (h6 : Nat) (q : Nat → Nat) (fl : Int32) (pn : Int32) (sl : Int32) (dr : Int32) (yn : Int32) (ra : Int32) (rp : Int32) (rs : Int32) (rd : Int32) (ry : Int32) (pk : Int32) (yk : Int32) (rg : Int32) (tc : Int32) (ko : Nat → Int32) (bo : Nat → Int32) (yo : Nat → Int32) (ro : Nat → Int32) (rv : Nat → Int32) (w : Int32) (nr : Nat) (hrg : rg = nI nr) (hnr : nr ≤ 8) (hro : ∀ i, i < nr → vp_in (ro i) 9) : zW l yX6_keys wsX6_keys ({ frames := 4, cells := 0, slots := 0, locals := 85 } : Room) D cI cO [.ref h6, .int w] [(h6, .inr (6, fM fl pn sl dr yn ra rp rs rd ry pk yk rg tc q)), ((q 5), .inl (cI, 9, .inl ko)), ((q 6), .inl (cI, 9, .inl bo)), ((q 7), .inl (cI, 9, .inl yo)), ((q 23), .inl (cI, 8, .inl ro)), ((q 24), .inl (cI, 8, .inl rv))] [(h6, .inr (6, fM fl pn sl dr yn ra rp rs rd ry pk yk rg tc q)), ((q 5), .inl (cI, 9, .inl ko)), ((q 6), .inl (cI, 9, .inl bo)), ((q 7), .inl (cI, 9, .inl yo)), ((q 23), .inl (cI, 8, .inl ro)), ((q 24), .inl (cI, 8, .inl rv))] (some (.int (F_X6_keys pn sl dr rg ko bo yo ro rv w))) := by
  refine zW_of (nL := 9) (cc := cX6_keys) (ret := some .int) (lv := [(0, .ref h6), (1, .int w)]) (by decide +kernel) rfl (Nat.le_of_ble_eq_true rfl) rfl (fun p e s m args below meth c C hr hlk => ?_)
  have hf := F_X6_keys.eq_1 pn sl dr rg ko bo yo ro rv w
  refine z_aload_n C dX6_keys_0 rfl 0 rfl ?_
  refine z_get (T := TX6) (v := .int pn) C i_X6_keys_6 0 rfl rfl 1 (by decide) m_X6_keys_1 rfl rfl dX6_keys_1 ?_
  refine z_if_ne (tgt := 10) C dX6_keys_4 (by decide) (fun c4 => ?_) (fun c4 => ?_)
  · rw [if_neg c4] at hf
    refine z_iload_n C dX6_keys_10 rfl 1 rfl ?_
    refine z_i2l C dX6_keys_11 ?_
    refine z_lconst (v := (0 : Int64)) C dX6_keys_12 (by decide) ?_
    refine z_ldc2 C m_X6_keys_2 dX6_keys_13 ?_
    refine z_cSR (As := [.long w.toInt64, .long (0 : Int64), .long (2 : Int64)]) C (c_X6_in l D cI cO w.toInt64 (0 : Int64) (2 : Int64)) (va_cwS 3 C.2.2.2.2.1 gX6_keys_X6_in rfl rfl rfl hdS_X6_in ⟨Nat.le_of_ble_eq_true rfl, Nat.le_of_ble_eq_true rfl⟩) [] rfl rfl rfl _ rfl (Nat.le_of_ble_eq_true rfl) ⟨Nat.zero_le _, Nat.zero_le _⟩ dX6_keys_16 ?_
    generalize hu16 : (F_X6_in w.toInt64 (0 : Int64) (2 : Int64)) = u16 at hf ⊢
    refine z_if_ne (tgt := 25) C dX6_keys_19 (by decide) (fun c19 => ?_) (fun c19 => ?_)
    · rw [if_neg c19] at hf
      have b19 := c19
      rw [← hu16] at c19
      refine z_aload_n C dX6_keys_25 rfl 0 rfl ?_
      refine z_get (T := TX6) (v := .int sl) C i_X6_keys_6 0 rfl rfl 2 (by decide) m_X6_keys_3 rfl rfl dX6_keys_26 ?_
      refine z_istore_n C [(0, .ref h6), (1, .int w), (2, .int sl)] dX6_keys_29 rfl (by decide) [1, 2, 0] rfl ?_
      refine z_aload_n C dX6_keys_30 rfl 0 rfl ?_
      refine z_get (T := TX6) (v := .int dr) C i_X6_keys_6 0 rfl rfl 3 (by decide) m_X6_keys_4 rfl rfl dX6_keys_31 ?_
      refine z_istore_n C [(0, .ref h6), (1, .int w), (2, .int sl), (3, .int dr)] dX6_keys_34 rfl (by decide) [1, 2, 3, 0] rfl ?_
      refine z_iconst (v := (0 : Int32)) C dX6_keys_35 (by decide) ?_
      refine z_istore C [(0, .ref h6), (1, .int w), (2, .int sl), (3, .int dr), (4, .int (0 : Int32))] dX6_keys_36 (by decide) [1, 2, 3, 4, 0] rfl ?_
      refine z_bipush (v := (-9 : Int32)) C dX6_keys_38 (by decide) ?_
      refine z_istore C [(0, .ref h6), (1, .int w), (2, .int sl), (3, .int dr), (4, .int (0 : Int32)), (5, .int (-9 : Int32))] dX6_keys_40 (by decide) [1, 2, 3, 4, 5, 0] rfl ?_
      refine z_bipush (v := (-9 : Int32)) C dX6_keys_42 (by decide) ?_
      refine z_istore C [(0, .ref h6), (1, .int w), (2, .int sl), (3, .int dr), (4, .int (0 : Int32)), (5, .int (-9 : Int32)), (6, .int (-9 : Int32))] dX6_keys_44 (by decide) [1, 2, 3, 4, 5, 6, 0] rfl ?_
      refine z_iconst (v := (0 : Int32)) C dX6_keys_46 (by decide) ?_
      refine z_istore C [(0, .ref h6), (1, .int w), (2, .int sl), (3, .int dr), (4, .int (0 : Int32)), (5, .int (-9 : Int32)), (6, .int (-9 : Int32)), (7, .int (0 : Int32))] dX6_keys_47 (by decide) [1, 2, 3, 4, 5, 6, 7, 0] rfl ?_
      have X49 : ∀ (x4_49 : Int32) (x5_49 : Int32) (x6_49 : Int32) (x7_49 : Int32) (sl_49 : Int32) (dr_49 : Int32), F_X6_keys pn sl dr rg ko bo yo ro rv w = (F_X6_keys_k49 w) x4_49 x5_49 x6_49 x7_49 sl_49 dr_49 → zG p l e ({ frames := 4, cells := 0, slots := 0, locals := 85 } : Room) s m args below meth c D (zA [(h6, .inr (6, fM fl pn sl dr yn ra rp rs rd ry pk yk rg tc q)), ((q 5), .inl (cI, 9, .inl ko)), ((q 6), .inl (cI, 9, .inl bo)), ((q 7), .inl (cI, 9, .inl yo)), ((q 23), .inl (cI, 8, .inl ro)), ((q 24), .inl (cI, 8, .inl rv))]) (zXw (zA [(h6, .inr (6, fM fl pn sl dr yn ra rp rs rd ry pk yk rg tc q)), ((q 5), .inl (cI, 9, .inl ko)), ((q 6), .inl (cI, 9, .inl bo)), ((q 7), .inl (cI, 9, .inl yo)), ((q 23), .inl (cI, 8, .inl ro)), ((q 24), .inl (cI, 8, .inl rv))]) s.heap) 9 0 0 (MQ below (zQw D [(h6, .inr (6, fM fl pn sl dr yn ra rp rs rd ry pk yk rg tc q)), ((q 5), .inl (cI, 9, .inl ko)), ((q 6), .inl (cI, 9, .inl bo)), ((q 7), .inl (cI, 9, .inl yo)), ((q 23), .inl (cI, 8, .inl ro)), ((q 24), .inl (cI, 8, .inl rv))] (zA [(h6, .inr (6, fM fl pn sl dr yn ra rp rs rd ry pk yk rg tc q)), ((q 5), .inl (cI, 9, .inl ko)), ((q 6), .inl (cI, 9, .inl bo)), ((q 7), .inl (cI, 9, .inl yo)), ((q 23), .inl (cI, 8, .inl ro)), ((q 24), .inl (cI, 8, .inl rv))]) (some (.int (F_X6_keys pn sl dr rg ko bo yo ro rv w)))) args s 0 0 (zA [(h6, .inr (6, fM fl pn sl dr yn ra rp rs rd ry pk yk rg tc q)), ((q 5), .inl (cI, 9, .inl ko)), ((q 6), .inl (cI, 9, .inl bo)), ((q 7), .inl (cI, 9, .inl yo)), ((q 23), .inl (cI, 8, .inl ro)), ((q 24), .inl (cI, 8, .inl rv))])) 156 [(0, .ref h6), (1, .int w), (2, .int sl), (3, .int dr), (4, .int x4_49), (5, .int x5_49), (6, .int x6_49), (7, .int x7_49)] [] [(h6, .inr (6, fM fl pn sl_49 dr_49 yn ra rp rs rd ry pk yk rg tc q)), ((q 5), .inl (cI, 9, .inl ko)), ((q 6), .inl (cI, 9, .inl bo)), ((q 7), .inl (cI, 9, .inl yo)), ((q 23), .inl (cI, 8, .inl ro)), ((q 24), .inl (cI, 8, .inl rv))] := by
        intro x4_49 x5_49 x6_49 x7_49 sl_49 dr_49 hf
        rw [F_X6_keys_k49] at hf
        skip
        refine z_aload_n C dX6_keys_156 rfl 0 rfl ?_
        refine z_iload_n C dX6_keys_157 rfl 2 rfl ?_
        refine z_put (T := TX6) (ty := .int) C [(h6, .inr (6, fM fl pn sl dr_49 yn ra rp rs rd ry pk yk rg tc q)), ((q 5), .inl (cI, 9, .inl ko)), ((q 6), .inl (cI, 9, .inl bo)), ((q 7), .inl (cI, 9, .inl yo)), ((q 23), .inl (cI, 8, .inl ro)), ((q 24), .inl (cI, 8, .inl rv))] i_X6_keys_6 tyX6 tyX6_ok nmX6 0 rfl rfl 2 (by decide) m_X6_keys_3 rfl rfl (by decide +kernel) rfl rfl (Nat.le_of_ble_eq_true rfl) dX6_keys_158 rfl ?_
        refine z_aload_n C dX6_keys_161 rfl 0 rfl ?_
        refine z_iload_n C dX6_keys_162 rfl 3 rfl ?_
        refine z_put (T := TX6) (ty := .int) C [(h6, .inr (6, fM fl pn sl dr yn ra rp rs rd ry pk yk rg tc q)), ((q 5), .inl (cI, 9, .inl ko)), ((q 6), .inl (cI, 9, .inl bo)), ((q 7), .inl (cI, 9, .inl yo)), ((q 23), .inl (cI, 8, .inl ro)), ((q 24), .inl (cI, 8, .inl rv))] i_X6_keys_6 tyX6 tyX6_ok nmX6 0 rfl rfl 3 (by decide) m_X6_keys_4 rfl rfl (by decide +kernel) rfl rfl (Nat.le_of_ble_eq_true rfl) dX6_keys_163 rfl ?_
        refine z_iload_n C dX6_keys_166 rfl 1 rfl ?_
        refine z_if_ne (tgt := 175) C dX6_keys_167 (by decide) (fun c167 => ?_) (fun c167 => ?_)
        · rw [if_neg c167] at hf
          refine z_iload_n C dX6_keys_175 rfl 1 rfl ?_
          refine z_iconst (v := (1 : Int32)) C dX6_keys_176 (by decide) ?_
          refine z_icmp_ne (tgt := 185) C dX6_keys_177 (by decide) (fun c177 => ?_) (fun c177 => ?_)
          · rw [if_neg c177] at hf
            refine z_iload C dX6_keys_185 6 rfl ?_
            exact z_iretW C hr hlk (by rw [hf]) rfl dX6_keys_187
          · rw [if_pos c177] at hf
            refine z_iload C dX6_keys_180 5 rfl ?_
            refine z_goto (tgt := 187) C dX6_keys_182 (by decide) ?_
            exact z_iretW C hr hlk (by rw [hf]) rfl dX6_keys_187
        · rw [if_pos c167] at hf
          refine z_iload C dX6_keys_170 4 rfl ?_
          refine z_goto (tgt := 187) C dX6_keys_172 (by decide) ?_
          exact z_iretW C hr hlk (by rw [hf]) rfl dX6_keys_187
      have L49 : ∀ (d49 : Nat) (j : Nat) (x4_49 : Int32) (x5_49 : Int32) (x6_49 : Int32) (x7_49 : Int32) (sl_49 : Int32) (dr_49 : Int32) (e7 : x7_49 = nI j) (hj : j ≤ 30) (hd : 30 < j + d49), F_X6_keys pn sl dr rg ko bo yo ro rv w = F_X6_keys_l49 rg ko bo yo ro rv (F_X6_keys_k49 w) d49 x4_49 x5_49 x6_49 x7_49 sl_49 dr_49 → zG p l e ({ frames := 4, cells := 0, slots := 0, locals := 85 } : Room) s m args below meth c D (zA [(h6, .inr (6, fM fl pn sl dr yn ra rp rs rd ry pk yk rg tc q)), ((q 5), .inl (cI, 9, .inl ko)), ((q 6), .inl (cI, 9, .inl bo)), ((q 7), .inl (cI, 9, .inl yo)), ((q 23), .inl (cI, 8, .inl ro)), ((q 24), .inl (cI, 8, .inl rv))]) (zXw (zA [(h6, .inr (6, fM fl pn sl dr yn ra rp rs rd ry pk yk rg tc q)), ((q 5), .inl (cI, 9, .inl ko)), ((q 6), .inl (cI, 9, .inl bo)), ((q 7), .inl (cI, 9, .inl yo)), ((q 23), .inl (cI, 8, .inl ro)), ((q 24), .inl (cI, 8, .inl rv))]) s.heap) 9 0 0 (MQ below (zQw D [(h6, .inr (6, fM fl pn sl dr yn ra rp rs rd ry pk yk rg tc q)), ((q 5), .inl (cI, 9, .inl ko)), ((q 6), .inl (cI, 9, .inl bo)), ((q 7), .inl (cI, 9, .inl yo)), ((q 23), .inl (cI, 8, .inl ro)), ((q 24), .inl (cI, 8, .inl rv))] (zA [(h6, .inr (6, fM fl pn sl dr yn ra rp rs rd ry pk yk rg tc q)), ((q 5), .inl (cI, 9, .inl ko)), ((q 6), .inl (cI, 9, .inl bo)), ((q 7), .inl (cI, 9, .inl yo)), ((q 23), .inl (cI, 8, .inl ro)), ((q 24), .inl (cI, 8, .inl rv))]) (some (.int (F_X6_keys pn sl dr rg ko bo yo ro rv w)))) args s 0 0 (zA [(h6, .inr (6, fM fl pn sl dr yn ra rp rs rd ry pk yk rg tc q)), ((q 5), .inl (cI, 9, .inl ko)), ((q 6), .inl (cI, 9, .inl bo)), ((q 7), .inl (cI, 9, .inl yo)), ((q 23), .inl (cI, 8, .inl ro)), ((q 24), .inl (cI, 8, .inl rv))])) 49 [(0, .ref h6), (1, .int w), (2, .int sl), (3, .int dr), (4, .int x4_49), (5, .int x5_49), (6, .int x6_49), (7, .int x7_49)] [] [(h6, .inr (6, fM fl pn sl_49 dr_49 yn ra rp rs rd ry pk yk rg tc q)), ((q 5), .inl (cI, 9, .inl ko)), ((q 6), .inl (cI, 9, .inl bo)), ((q 7), .inl (cI, 9, .inl yo)), ((q 23), .inl (cI, 8, .inl ro)), ((q 24), .inl (cI, 8, .inl rv))] := by
        intro d49
        induction d49 with
        | zero =>
          intro j x4_49 x5_49 x6_49 x7_49 sl_49 dr_49 e7 hj hd hf
          exfalso; omega
        | succ d49 ih49 =>
          intro j x4_49 x5_49 x6_49 x7_49 sl_49 dr_49 e7 hj hd hf
          rw [F_X6_keys_l49] at hf
          skip
          refine z_iload C dX6_keys_49 7 rfl ?_
          refine z_bipush (v := (30 : Int32)) C dX6_keys_51 (by decide) ?_
          refine z_icmp_ge (tgt := 156) C dX6_keys_53 (by decide) (fun c53 => ?_) (fun c53 => ?_)
          · rw [if_pos c53] at hf
            exact X49 x4_49 x5_49 x6_49 x7_49 sl_49 dr_49  hf
          · rw [if_neg c53] at hf
            refine z_aload_n C dX6_keys_56 rfl 0 rfl ?_
            refine z_iconst (v := (1 : Int32)) C dX6_keys_57 (by decide) ?_
            refine z_iload C dX6_keys_58 7 rfl ?_
            refine z_bipush (v := (6 : Int32)) C dX6_keys_60 (by decide) ?_
            refine z_idiv C dX6_keys_62 (by decide) ?_
            refine z_iadd C dX6_keys_63 ?_
            refine z_put (T := TX6) (ty := .int) C [(h6, .inr (6, fM fl pn ((1 : Int32) + (x7_49 / (6 : Int32))) dr_49 yn ra rp rs rd ry pk yk rg tc q)), ((q 5), .inl (cI, 9, .inl ko)), ((q 6), .inl (cI, 9, .inl bo)), ((q 7), .inl (cI, 9, .inl yo)), ((q 23), .inl (cI, 8, .inl ro)), ((q 24), .inl (cI, 8, .inl rv))] i_X6_keys_6 tyX6 tyX6_ok nmX6 0 rfl rfl 2 (by decide) m_X6_keys_3 rfl rfl (by decide +kernel) rfl rfl (Nat.le_of_ble_eq_true rfl) dX6_keys_64 rfl ?_
            refine z_aload_n C dX6_keys_67 rfl 0 rfl ?_
            refine z_iload C dX6_keys_68 7 rfl ?_
            refine z_bipush (v := (6 : Int32)) C dX6_keys_70 (by decide) ?_
            refine z_irem C dX6_keys_72 (by decide) ?_
            refine z_put (T := TX6) (ty := .int) C [(h6, .inr (6, fM fl pn ((1 : Int32) + (x7_49 / (6 : Int32))) (x7_49 - x7_49 / (6 : Int32) * (6 : Int32)) yn ra rp rs rd ry pk yk rg tc q)), ((q 5), .inl (cI, 9, .inl ko)), ((q 6), .inl (cI, 9, .inl bo)), ((q 7), .inl (cI, 9, .inl yo)), ((q 23), .inl (cI, 8, .inl ro)), ((q 24), .inl (cI, 8, .inl rv))] i_X6_keys_6 tyX6 tyX6_ok nmX6 0 rfl rfl 3 (by decide) m_X6_keys_4 rfl rfl (by decide +kernel) rfl rfl (Nat.le_of_ble_eq_true rfl) dX6_keys_73 rfl ?_
            refine z_aload_n C dX6_keys_76 rfl 0 rfl ?_
            refine z_cVR (As := []) C (c_X6_areSo l D cI cO h6 q fl pn ((1 : Int32) + (x7_49 / (6 : Int32))) (x7_49 - x7_49 / (6 : Int32) * (6 : Int32)) yn ra rp rs rd ry pk yk rg tc ko bo yo ro rv nr (by subst hu16; exact hrg) (by subst hu16; exact hnr) (by subst hu16; exact hro)) (cwV 0 C.2.2.2.2.1 gX6_keys_X6_areSo rfl rfl rfl hdV_X6_areSo ⟨Nat.le_of_ble_eq_true rfl, Nat.le_of_ble_eq_true rfl⟩) [0, 1, 2, 3, 4, 5] rfl rfl 0 rfl rfl rfl _ rfl (Nat.le_of_ble_eq_true rfl) ⟨Nat.zero_le _, Nat.zero_le _⟩ dX6_keys_77 ?_
            generalize hu77 : (F_X6_areSo ((1 : Int32) + (x7_49 / (6 : Int32))) (x7_49 - x7_49 / (6 : Int32) * (6 : Int32)) rg ko bo yo ro rv) = u77 at hf ⊢
            refine z_istore C [(0, .ref h6), (1, .int w), (2, .int sl), (3, .int dr), (4, .int x4_49), (5, .int x5_49), (6, .int x6_49), (7, .int x7_49), (8, .int u77)] dX6_keys_80 (by decide) [1, 2, 3, 4, 5, 6, 7, 8, 0] rfl ?_
            refine z_iload C dX6_keys_82 4 rfl ?_
            refine z_iload C dX6_keys_84 8 rfl ?_
            refine z_if_eq (tgt := 93) C dX6_keys_86 (by decide) (fun c86 => ?_) (fun c86 => ?_)
            · rw [if_pos c86] at hf
              have b86 := c86
              rw [← hu77] at c86
              refine z_iconst (v := (0 : Int32)) C dX6_keys_93 (by decide) ?_
              refine z_iadd C dX6_keys_94 ?_
              refine z_istore C [(0, .ref h6), (1, .int w), (2, .int sl), (3, .int dr), (4, .int (x4_49 + (0 : Int32))), (5, .int x5_49), (6, .int x6_49), (7, .int x7_49), (8, .int u77)] dX6_keys_95 (by decide) [1, 2, 3, 4, 0, 5, 6, 7, 8] rfl ?_
              refine z_iload C dX6_keys_97 8 rfl ?_
              refine z_if_eq (tgt := 122) C dX6_keys_99 (by decide) (fun _ => ?_) (fun h9 => absurd b86 h9)
              refine z_iload C dX6_keys_122 5 rfl ?_
              refine z_istore C [(0, .ref h6), (1, .int w), (2, .int sl), (3, .int dr), (4, .int (x4_49 + (0 : Int32))), (5, .int x5_49), (6, .int x6_49), (7, .int x7_49), (8, .int u77)] dX6_keys_124 (by decide) [1, 2, 3, 4, 5, 0, 6, 7, 8] rfl ?_
              refine z_iload C dX6_keys_126 8 rfl ?_
              refine z_if_eq (tgt := 146) C dX6_keys_128 (by decide) (fun _ => ?_) (fun h9 => absurd b86 h9)
              refine z_iload C dX6_keys_146 6 rfl ?_
              refine z_istore C [(0, .ref h6), (1, .int w), (2, .int sl), (3, .int dr), (4, .int (x4_49 + (0 : Int32))), (5, .int x5_49), (6, .int x6_49), (7, .int x7_49), (8, .int u77)] dX6_keys_148 (by decide) [1, 2, 3, 4, 5, 6, 0, 7, 8] rfl ?_
              refine z_iinc (v := (x7_49 + (1 : Int32))) C [(0, .ref h6), (1, .int w), (2, .int sl), (3, .int dr), (4, .int (x4_49 + (0 : Int32))), (5, .int x5_49), (6, .int x6_49), (7, .int (x7_49 + (1 : Int32))), (8, .int u77)] dX6_keys_150 7 rfl (by rfl) (by decide) [1, 2, 3, 4, 5, 6, 7, 0, 8] rfl ?_
              refine z_goto (tgt := 49) C dX6_keys_153 (by decide) ?_
              refine z_ls [(0, .ref h6), (1, .int w), (2, .int sl), (3, .int dr), (4, .int (x4_49 + (0 : Int32))), (5, .int x5_49), (6, .int x6_49), (7, .int (x7_49 + (1 : Int32)))] [0, 1, 2, 3, 4, 5, 6, 7] rfl ?_
              exact ih49 (j + 1) (x4_49 + (0 : Int32)) x5_49 x6_49 (x7_49 + (1 : Int32)) ((1 : Int32) + (x7_49 / (6 : Int32))) (x7_49 - x7_49 / (6 : Int32) * (6 : Int32)) (by subst hu77 hu16; exact (by rw [e7]; exact nI_1 j)) (by subst hu77 hu16; exact (by have := z_jlt (n := 30) e7 (by omega) (by decide) c53; omega)) (by omega) hf
            · rw [if_neg c86] at hf
              have b86 := c86
              rw [← hu77] at c86
              refine z_iconst (v := (1 : Int32)) C dX6_keys_89 (by decide) ?_
              refine z_goto (tgt := 94) C dX6_keys_90 (by decide) ?_
              refine z_iadd C dX6_keys_94 ?_
              refine z_istore C [(0, .ref h6), (1, .int w), (2, .int sl), (3, .int dr), (4, .int (x4_49 + (1 : Int32))), (5, .int x5_49), (6, .int x6_49), (7, .int x7_49), (8, .int u77)] dX6_keys_95 (by decide) [1, 2, 3, 4, 0, 5, 6, 7, 8] rfl ?_
              refine z_iload C dX6_keys_97 8 rfl ?_
              refine z_if_eq (tgt := 122) C dX6_keys_99 (by decide) (fun h9 => absurd h9 b86) (fun _ => ?_)
              refine z_iload C dX6_keys_102 5 rfl ?_
              refine z_if_ge (tgt := 122) C dX6_keys_104 (by decide) (fun c104 => ?_) (fun c104 => ?_)
              · rw [if_pos c104] at hf
                refine z_iload C dX6_keys_122 5 rfl ?_
                refine z_istore C [(0, .ref h6), (1, .int w), (2, .int sl), (3, .int dr), (4, .int (x4_49 + (1 : Int32))), (5, .int x5_49), (6, .int x6_49), (7, .int x7_49), (8, .int u77)] dX6_keys_124 (by decide) [1, 2, 3, 4, 5, 0, 6, 7, 8] rfl ?_
                refine z_iload C dX6_keys_126 8 rfl ?_
                refine z_if_eq (tgt := 146) C dX6_keys_128 (by decide) (fun h9 => absurd h9 b86) (fun _ => ?_)
                refine z_bipush (v := (10 : Int32)) C dX6_keys_131 (by decide) ?_
                refine z_aload_n C dX6_keys_133 rfl 0 rfl ?_
                refine z_get (T := TX6) (v := .int ((1 : Int32) + (x7_49 / (6 : Int32)))) C i_X6_keys_6 0 rfl rfl 2 (by decide) m_X6_keys_3 rfl rfl dX6_keys_134 ?_
                refine z_imul C dX6_keys_137 ?_
                refine z_aload_n C dX6_keys_138 rfl 0 rfl ?_
                refine z_get (T := TX6) (v := .int (x7_49 - x7_49 / (6 : Int32) * (6 : Int32))) C i_X6_keys_6 0 rfl rfl 3 (by decide) m_X6_keys_4 rfl rfl dX6_keys_139 ?_
                refine z_iadd C dX6_keys_142 ?_
                refine z_goto (tgt := 148) C dX6_keys_143 (by decide) ?_
                refine z_istore C [(0, .ref h6), (1, .int w), (2, .int sl), (3, .int dr), (4, .int (x4_49 + (1 : Int32))), (5, .int x5_49), (6, .int (((10 : Int32) * ((1 : Int32) + (x7_49 / (6 : Int32)))) + (x7_49 - x7_49 / (6 : Int32) * (6 : Int32)))), (7, .int x7_49), (8, .int u77)] dX6_keys_148 (by decide) [1, 2, 3, 4, 5, 6, 0, 7, 8] rfl ?_
                refine z_iinc (v := (x7_49 + (1 : Int32))) C [(0, .ref h6), (1, .int w), (2, .int sl), (3, .int dr), (4, .int (x4_49 + (1 : Int32))), (5, .int x5_49), (6, .int (((10 : Int32) * ((1 : Int32) + (x7_49 / (6 : Int32)))) + (x7_49 - x7_49 / (6 : Int32) * (6 : Int32)))), (7, .int (x7_49 + (1 : Int32))), (8, .int u77)] dX6_keys_150 7 rfl (by rfl) (by decide) [1, 2, 3, 4, 5, 6, 7, 0, 8] rfl ?_
                refine z_goto (tgt := 49) C dX6_keys_153 (by decide) ?_
                refine z_ls [(0, .ref h6), (1, .int w), (2, .int sl), (3, .int dr), (4, .int (x4_49 + (1 : Int32))), (5, .int x5_49), (6, .int (((10 : Int32) * ((1 : Int32) + (x7_49 / (6 : Int32)))) + (x7_49 - x7_49 / (6 : Int32) * (6 : Int32)))), (7, .int (x7_49 + (1 : Int32)))] [0, 1, 2, 3, 4, 5, 6, 7] rfl ?_
                exact ih49 (j + 1) (x4_49 + (1 : Int32)) x5_49 (((10 : Int32) * ((1 : Int32) + (x7_49 / (6 : Int32)))) + (x7_49 - x7_49 / (6 : Int32) * (6 : Int32))) (x7_49 + (1 : Int32)) ((1 : Int32) + (x7_49 / (6 : Int32))) (x7_49 - x7_49 / (6 : Int32) * (6 : Int32)) (by subst hu77 hu16; exact (by rw [e7]; exact nI_1 j)) (by subst hu77 hu16; exact (by have := z_jlt (n := 30) e7 (by omega) (by decide) c53; omega)) (by omega) hf
              · rw [if_neg c104] at hf
                refine z_bipush (v := (10 : Int32)) C dX6_keys_107 (by decide) ?_
                refine z_aload_n C dX6_keys_109 rfl 0 rfl ?_
                refine z_get (T := TX6) (v := .int ((1 : Int32) + (x7_49 / (6 : Int32)))) C i_X6_keys_6 0 rfl rfl 2 (by decide) m_X6_keys_3 rfl rfl dX6_keys_110 ?_
                refine z_imul C dX6_keys_113 ?_
                refine z_aload_n C dX6_keys_114 rfl 0 rfl ?_
                refine z_get (T := TX6) (v := .int (x7_49 - x7_49 / (6 : Int32) * (6 : Int32))) C i_X6_keys_6 0 rfl rfl 3 (by decide) m_X6_keys_4 rfl rfl dX6_keys_115 ?_
                refine z_iadd C dX6_keys_118 ?_
                refine z_goto (tgt := 124) C dX6_keys_119 (by decide) ?_
                refine z_istore C [(0, .ref h6), (1, .int w), (2, .int sl), (3, .int dr), (4, .int (x4_49 + (1 : Int32))), (5, .int (((10 : Int32) * ((1 : Int32) + (x7_49 / (6 : Int32)))) + (x7_49 - x7_49 / (6 : Int32) * (6 : Int32)))), (6, .int x6_49), (7, .int x7_49), (8, .int u77)] dX6_keys_124 (by decide) [1, 2, 3, 4, 5, 0, 6, 7, 8] rfl ?_
                refine z_iload C dX6_keys_126 8 rfl ?_
                refine z_if_eq (tgt := 146) C dX6_keys_128 (by decide) (fun h9 => absurd h9 b86) (fun _ => ?_)
                refine z_bipush (v := (10 : Int32)) C dX6_keys_131 (by decide) ?_
                refine z_aload_n C dX6_keys_133 rfl 0 rfl ?_
                refine z_get (T := TX6) (v := .int ((1 : Int32) + (x7_49 / (6 : Int32)))) C i_X6_keys_6 0 rfl rfl 2 (by decide) m_X6_keys_3 rfl rfl dX6_keys_134 ?_
                refine z_imul C dX6_keys_137 ?_
                refine z_aload_n C dX6_keys_138 rfl 0 rfl ?_
                refine z_get (T := TX6) (v := .int (x7_49 - x7_49 / (6 : Int32) * (6 : Int32))) C i_X6_keys_6 0 rfl rfl 3 (by decide) m_X6_keys_4 rfl rfl dX6_keys_139 ?_
                refine z_iadd C dX6_keys_142 ?_
                refine z_goto (tgt := 148) C dX6_keys_143 (by decide) ?_
                refine z_istore C [(0, .ref h6), (1, .int w), (2, .int sl), (3, .int dr), (4, .int (x4_49 + (1 : Int32))), (5, .int (((10 : Int32) * ((1 : Int32) + (x7_49 / (6 : Int32)))) + (x7_49 - x7_49 / (6 : Int32) * (6 : Int32)))), (6, .int (((10 : Int32) * ((1 : Int32) + (x7_49 / (6 : Int32)))) + (x7_49 - x7_49 / (6 : Int32) * (6 : Int32)))), (7, .int x7_49), (8, .int u77)] dX6_keys_148 (by decide) [1, 2, 3, 4, 5, 6, 0, 7, 8] rfl ?_
                refine z_iinc (v := (x7_49 + (1 : Int32))) C [(0, .ref h6), (1, .int w), (2, .int sl), (3, .int dr), (4, .int (x4_49 + (1 : Int32))), (5, .int (((10 : Int32) * ((1 : Int32) + (x7_49 / (6 : Int32)))) + (x7_49 - x7_49 / (6 : Int32) * (6 : Int32)))), (6, .int (((10 : Int32) * ((1 : Int32) + (x7_49 / (6 : Int32)))) + (x7_49 - x7_49 / (6 : Int32) * (6 : Int32)))), (7, .int (x7_49 + (1 : Int32))), (8, .int u77)] dX6_keys_150 7 rfl (by rfl) (by decide) [1, 2, 3, 4, 5, 6, 7, 0, 8] rfl ?_
                refine z_goto (tgt := 49) C dX6_keys_153 (by decide) ?_
                refine z_ls [(0, .ref h6), (1, .int w), (2, .int sl), (3, .int dr), (4, .int (x4_49 + (1 : Int32))), (5, .int (((10 : Int32) * ((1 : Int32) + (x7_49 / (6 : Int32)))) + (x7_49 - x7_49 / (6 : Int32) * (6 : Int32)))), (6, .int (((10 : Int32) * ((1 : Int32) + (x7_49 / (6 : Int32)))) + (x7_49 - x7_49 / (6 : Int32) * (6 : Int32)))), (7, .int (x7_49 + (1 : Int32)))] [0, 1, 2, 3, 4, 5, 6, 7] rfl ?_
                exact ih49 (j + 1) (x4_49 + (1 : Int32)) (((10 : Int32) * ((1 : Int32) + (x7_49 / (6 : Int32)))) + (x7_49 - x7_49 / (6 : Int32) * (6 : Int32))) (((10 : Int32) * ((1 : Int32) + (x7_49 / (6 : Int32)))) + (x7_49 - x7_49 / (6 : Int32) * (6 : Int32))) (x7_49 + (1 : Int32)) ((1 : Int32) + (x7_49 / (6 : Int32))) (x7_49 - x7_49 / (6 : Int32) * (6 : Int32)) (by subst hu77 hu16; exact (by rw [e7]; exact nI_1 j)) (by subst hu77 hu16; exact (by have := z_jlt (n := 30) e7 (by omega) (by decide) c53; omega)) (by omega) hf
      exact L49 31 0 (0 : Int32) (-9 : Int32) (-9 : Int32) (0 : Int32) sl dr (by subst hu16; exact nI_0.symm) (by subst hu16; exact (Nat.zero_le _)) (by omega) hf
    · rw [if_pos c19] at hf
      have b19 := c19
      rw [← hu16] at c19
      refine z_bipush (v := (-2 : Int32)) C dX6_keys_22 (by decide) ?_
      exact z_iretW C hr hlk (by rw [hf]) rfl dX6_keys_24
  · rw [if_pos c4] at hf
    refine z_bipush (v := (-3 : Int32)) C dX6_keys_7 (by decide) ?_
    exact z_iretW C hr hlk (by rw [hf]) rfl dX6_keys_9
-- X6_reading
theorem m_X6_reading_1 : Cond.constantLong RX6 155 (5) ∈ wsX6_reading := List.mem_of_getElem? (i := 1) rfl
theorem i_X6_reading_6 : ∀ w ∈ u_ws RX6 TX6 30, w ∈ wsX6_reading := by decide +kernel
theorem m_X6_reading_2 : Cond.fieldLink RX6 135 "WishPinsModel" "readings" "I" ∈ wsX6_reading := List.mem_of_getElem? (i := 2) rfl
theorem m_X6_reading_3 : Cond.fieldLink RX6 40 "WishPinsModel" "readingOf" "[I" ∈ wsX6_reading := List.mem_of_getElem? (i := 3) rfl
theorem m_X6_reading_4 : Cond.fieldLink RX6 43 "WishPinsModel" "readingWas" "[I" ∈ wsX6_reading := List.mem_of_getElem? (i := 4) rfl
def F_X6_reading (pn : Int32) (rg : Int32) (ro : Nat → Int32) (rv : Nat → Int32) (k : Int32) (v : Int32) : Int32 × Int32 × (Nat → Int32) × (Nat → Int32) :=
  (if (F_X6_noPin pn k) = 0 then (if (F_X6_in v.toInt64 (0 : Int64) (5 : Int64)) = 0 then ((-2 : Int32), rg, ro, rv) else (if rg = (8 : Int32) then ((-4 : Int32), rg, ro, rv) else (((rg + (1 : Int32)) - (1 : Int32)), (rg + (1 : Int32)), (upd ro rg.toNatClampNeg k), (upd rv rg.toNatClampNeg v)))) else ((-1 : Int32), rg, ro, rv))
set_option maxHeartbeats 4000000 in
set_option maxRecDepth 100000 in
theorem c_X6_reading (l : Launch) (D : va_G) (cI cO : ClassId) (h6 : Nat) (q : Nat → Nat) (fl : Int32) (pn : Int32) (sl : Int32) (dr : Int32) (yn : Int32) (ra : Int32) (rp : Int32) (rs : Int32) (rd : Int32) (ry : Int32) (pk : Int32) (yk : Int32) (rg : Int32) (tc : Int32) (ro : Nat → Int32) (rv : Nat → Int32) (k : Int32) (v : Int32) (nr : Nat) (hrg : rg = nI nr) (hnr : nr ≤ 8) : zW l yX6_reading wsX6_reading ({ frames := 2, cells := 0, slots := 0, locals := 46 } : Room) D cI cO [.ref h6, .int k, .int v] [(h6, .inr (6, fM fl pn sl dr yn ra rp rs rd ry pk yk rg tc q)), ((q 23), .inl (cI, 8, .inl ro)), ((q 24), .inl (cI, 8, .inl rv))] [(h6, .inr (6, fM fl pn sl dr yn ra rp rs rd ry pk yk ((F_X6_reading pn rg ro rv k v).2.1) tc q)), ((q 23), .inl (cI, 8, .inl ((F_X6_reading pn rg ro rv k v).2.2.1))), ((q 24), .inl (cI, 8, .inl ((F_X6_reading pn rg ro rv k v).2.2.2)))] (some (.int ((F_X6_reading pn rg ro rv k v).1))) := by
  refine zW_of (nL := 3) (cc := cX6_reading) (ret := some .int) (lv := [(0, .ref h6), (1, .int k), (2, .int v)]) (by decide +kernel) rfl (Nat.le_of_ble_eq_true rfl) rfl (fun p e s m args below meth c C hr hlk => ?_)
  have hf := F_X6_reading.eq_1 pn rg ro rv k v
  refine z_aload_n C dX6_reading_0 rfl 0 rfl ?_
  refine z_iload_n C dX6_reading_1 rfl 1 rfl ?_
  refine z_cVR (As := [.int k]) C (c_X6_noPin l D cI cO h6 q fl pn sl dr yn ra rp rs rd ry pk yk rg tc k) (cwV 1 C.2.2.2.2.1 gX6_reading_X6_noPin rfl rfl rfl hdV_X6_noPin ⟨Nat.le_of_ble_eq_true rfl, Nat.le_of_ble_eq_true rfl⟩) [0] rfl rfl 0 rfl rfl rfl _ rfl (Nat.le_of_ble_eq_true rfl) ⟨Nat.zero_le _, Nat.zero_le _⟩ dX6_reading_2 ?_
  generalize hu2 : (F_X6_noPin pn k) = u2 at hf ⊢
  refine z_if_eq (tgt := 10) C dX6_reading_5 (by decide) (fun c5 => ?_) (fun c5 => ?_)
  · rw [if_pos c5] at hf
    have b5 := c5
    rw [← hu2] at c5
    refine z_iload_n C dX6_reading_10 rfl 2 rfl ?_
    refine z_i2l C dX6_reading_11 ?_
    refine z_lconst (v := (0 : Int64)) C dX6_reading_12 (by decide) ?_
    refine z_ldc2 C m_X6_reading_1 dX6_reading_13 ?_
    refine z_cSR (As := [.long v.toInt64, .long (0 : Int64), .long (5 : Int64)]) C (c_X6_in l D cI cO v.toInt64 (0 : Int64) (5 : Int64)) (va_cwS 3 C.2.2.2.2.1 gX6_reading_X6_in rfl rfl rfl hdS_X6_in ⟨Nat.le_of_ble_eq_true rfl, Nat.le_of_ble_eq_true rfl⟩) [] rfl rfl rfl _ rfl (Nat.le_of_ble_eq_true rfl) ⟨Nat.zero_le _, Nat.zero_le _⟩ dX6_reading_16 ?_
    generalize hu16 : (F_X6_in v.toInt64 (0 : Int64) (5 : Int64)) = u16 at hf ⊢
    refine z_if_ne (tgt := 25) C dX6_reading_19 (by decide) (fun c19 => ?_) (fun c19 => ?_)
    · rw [if_neg c19] at hf
      have b19 := c19
      rw [← hu16] at c19
      refine z_aload_n C dX6_reading_25 rfl 0 rfl ?_
      refine z_get (T := TX6) (v := .int rg) C i_X6_reading_6 0 rfl rfl 22 (by decide) m_X6_reading_2 rfl rfl dX6_reading_26 ?_
      refine z_bipush (v := (8 : Int32)) C dX6_reading_29 (by decide) ?_
      refine z_icmp_ne (tgt := 37) C dX6_reading_31 (by decide) (fun c31 => ?_) (fun c31 => ?_)
      · rw [if_neg c31] at hf
        refine z_aload_n C dX6_reading_37 rfl 0 rfl ?_
        refine z_get (T := TX6) (v := .ref (q 23)) C i_X6_reading_6 0 rfl rfl 23 (by decide) m_X6_reading_3 rfl rfl dX6_reading_38 ?_
        refine z_aload_n C dX6_reading_41 rfl 0 rfl ?_
        refine z_get (T := TX6) (v := .int rg) C i_X6_reading_6 0 rfl rfl 22 (by decide) m_X6_reading_2 rfl rfl dX6_reading_42 ?_
        refine z_iload_n C dX6_reading_45 rfl 1 rfl ?_
        refine z_ast C [(h6, .inr (6, fM fl pn sl dr yn ra rp rs rd ry pk yk rg tc q)), ((q 23), .inl (cI, 8, .inl (upd ro rg.toNatClampNeg k))), ((q 24), .inl (cI, 8, .inl rv))] 1 rfl (by subst hu16 hu2; exact (z_ixN hrg (z_lt8 hrg hnr c31) (by decide))) dX6_reading_46 rfl ?_
        refine z_aload_n C dX6_reading_47 rfl 0 rfl ?_
        refine z_get (T := TX6) (v := .ref (q 24)) C i_X6_reading_6 0 rfl rfl 24 (by decide) m_X6_reading_4 rfl rfl dX6_reading_48 ?_
        refine z_aload_n C dX6_reading_51 rfl 0 rfl ?_
        refine z_get (T := TX6) (v := .int rg) C i_X6_reading_6 0 rfl rfl 22 (by decide) m_X6_reading_2 rfl rfl dX6_reading_52 ?_
        refine z_iload_n C dX6_reading_55 rfl 2 rfl ?_
        refine z_ast C [(h6, .inr (6, fM fl pn sl dr yn ra rp rs rd ry pk yk rg tc q)), ((q 23), .inl (cI, 8, .inl (upd ro rg.toNatClampNeg k))), ((q 24), .inl (cI, 8, .inl (upd rv rg.toNatClampNeg v)))] 2 rfl (by subst hu16 hu2; exact (z_ixN hrg (z_lt8 hrg hnr c31) (by decide))) dX6_reading_56 rfl ?_
        refine z_aload_n C dX6_reading_57 rfl 0 rfl ?_
        refine z_dup C dX6_reading_58 rfl ?_
        refine z_get (T := TX6) (v := .int rg) C i_X6_reading_6 0 rfl rfl 22 (by decide) m_X6_reading_2 rfl rfl dX6_reading_59 ?_
        refine z_iconst (v := (1 : Int32)) C dX6_reading_62 (by decide) ?_
        refine z_iadd C dX6_reading_63 ?_
        refine z_put (T := TX6) (ty := .int) C [(h6, .inr (6, fM fl pn sl dr yn ra rp rs rd ry pk yk (rg + (1 : Int32)) tc q)), ((q 23), .inl (cI, 8, .inl (upd ro rg.toNatClampNeg k))), ((q 24), .inl (cI, 8, .inl (upd rv rg.toNatClampNeg v)))] i_X6_reading_6 tyX6 tyX6_ok nmX6 0 rfl rfl 22 (by decide) m_X6_reading_2 rfl rfl (by decide +kernel) rfl rfl (Nat.le_of_ble_eq_true rfl) dX6_reading_64 rfl ?_
        refine z_aload_n C dX6_reading_67 rfl 0 rfl ?_
        refine z_get (T := TX6) (v := .int (rg + (1 : Int32))) C i_X6_reading_6 0 rfl rfl 22 (by decide) m_X6_reading_2 rfl rfl dX6_reading_68 ?_
        refine z_iconst (v := (1 : Int32)) C dX6_reading_71 (by decide) ?_
        refine z_isub C dX6_reading_72 ?_
        exact z_iretW C hr hlk (by rw [hf]) (by rw [hf]) dX6_reading_73
      · rw [if_pos c31] at hf
        refine z_bipush (v := (-4 : Int32)) C dX6_reading_34 (by decide) ?_
        exact z_iretW C hr hlk (by rw [hf]) (by rw [hf]) dX6_reading_36
    · rw [if_pos c19] at hf
      have b19 := c19
      rw [← hu16] at c19
      refine z_bipush (v := (-2 : Int32)) C dX6_reading_22 (by decide) ?_
      exact z_iretW C hr hlk (by rw [hf]) (by rw [hf]) dX6_reading_24
  · rw [if_neg c5] at hf
    have b5 := c5
    rw [← hu2] at c5
    refine z_iconst (v := (-1 : Int32)) C dX6_reading_8 (by decide) ?_
    exact z_iretW C hr hlk (by rw [hf]) (by rw [hf]) dX6_reading_9
-- X6_back
theorem i_X6_back_6 : ∀ w ∈ u_ws RX6 TX6 30, w ∈ wsX6_back := by decide +kernel
theorem m_X6_back_1 : Cond.fieldLink RX6 135 "WishPinsModel" "readings" "I" ∈ wsX6_back := List.mem_of_getElem? (i := 1) rfl
def F_X6_back (rg : Int32) (k : Int32) : Int32 × Int32 :=
  (if (F_X6_in k.toInt64 (0 : Int64) rg.toInt64) = 0 then ((-2 : Int32), rg) else ((rg - k), (rg - k)))
set_option maxHeartbeats 4000000 in
set_option maxRecDepth 100000 in
theorem c_X6_back (l : Launch) (D : va_G) (cI cO : ClassId) (h6 : Nat) (q : Nat → Nat) (fl : Int32) (pn : Int32) (sl : Int32) (dr : Int32) (yn : Int32) (ra : Int32) (rp : Int32) (rs : Int32) (rd : Int32) (ry : Int32) (pk : Int32) (yk : Int32) (rg : Int32) (tc : Int32) (k : Int32) : zW l yX6_back wsX6_back ({ frames := 1, cells := 0, slots := 0, locals := 25 } : Room) D cI cO [.ref h6, .int k] [(h6, .inr (6, fM fl pn sl dr yn ra rp rs rd ry pk yk rg tc q))] [(h6, .inr (6, fM fl pn sl dr yn ra rp rs rd ry pk yk ((F_X6_back rg k).2) tc q))] (some (.int ((F_X6_back rg k).1))) := by
  refine zW_of (nL := 2) (cc := cX6_back) (ret := some .int) (lv := [(0, .ref h6), (1, .int k)]) (by decide +kernel) rfl (Nat.le_of_ble_eq_true rfl) rfl (fun p e s m args below meth c C hr hlk => ?_)
  have hf := F_X6_back.eq_1 rg k
  refine z_iload_n C dX6_back_0 rfl 1 rfl ?_
  refine z_i2l C dX6_back_1 ?_
  refine z_lconst (v := (0 : Int64)) C dX6_back_2 (by decide) ?_
  refine z_aload_n C dX6_back_3 rfl 0 rfl ?_
  refine z_get (T := TX6) (v := .int rg) C i_X6_back_6 0 rfl rfl 22 (by decide) m_X6_back_1 rfl rfl dX6_back_4 ?_
  refine z_i2l C dX6_back_7 ?_
  refine z_cSR (As := [.long k.toInt64, .long (0 : Int64), .long rg.toInt64]) C (c_X6_in l D cI cO k.toInt64 (0 : Int64) rg.toInt64) (va_cwS 3 C.2.2.2.2.1 gX6_back_X6_in rfl rfl rfl hdS_X6_in ⟨Nat.le_of_ble_eq_true rfl, Nat.le_of_ble_eq_true rfl⟩) [] rfl rfl rfl _ rfl (Nat.le_of_ble_eq_true rfl) ⟨Nat.zero_le _, Nat.zero_le _⟩ dX6_back_8 ?_
  generalize hu8 : (F_X6_in k.toInt64 (0 : Int64) rg.toInt64) = u8 at hf ⊢
  refine z_if_ne (tgt := 17) C dX6_back_11 (by decide) (fun c11 => ?_) (fun c11 => ?_)
  · rw [if_neg c11] at hf
    have b11 := c11
    rw [← hu8] at c11
    refine z_aload_n C dX6_back_17 rfl 0 rfl ?_
    refine z_dup C dX6_back_18 rfl ?_
    refine z_get (T := TX6) (v := .int rg) C i_X6_back_6 0 rfl rfl 22 (by decide) m_X6_back_1 rfl rfl dX6_back_19 ?_
    refine z_iload_n C dX6_back_22 rfl 1 rfl ?_
    refine z_isub C dX6_back_23 ?_
    refine z_put (T := TX6) (ty := .int) C [(h6, .inr (6, fM fl pn sl dr yn ra rp rs rd ry pk yk (rg - k) tc q))] i_X6_back_6 tyX6 tyX6_ok nmX6 0 rfl rfl 22 (by decide) m_X6_back_1 rfl rfl (by decide +kernel) rfl rfl (Nat.le_of_ble_eq_true rfl) dX6_back_24 rfl ?_
    refine z_aload_n C dX6_back_27 rfl 0 rfl ?_
    refine z_get (T := TX6) (v := .int (rg - k)) C i_X6_back_6 0 rfl rfl 22 (by decide) m_X6_back_1 rfl rfl dX6_back_28 ?_
    exact z_iretW C hr hlk (by rw [hf]) (by rw [hf]) dX6_back_31
  · rw [if_pos c11] at hf
    have b11 := c11
    rw [← hu8] at c11
    refine z_bipush (v := (-2 : Int32)) C dX6_back_14 (by decide) ?_
    exact z_iretW C hr hlk (by rw [hf]) (by rw [hf]) dX6_back_16
-- X6_share
def F_X6_share_k6 (u : Int64) (w : Int32) (x5_6 : Int64) (x7_6 : Int64) : Int64 :=
  (if w = 0 then (u / x5_6) else ((10 : Int64) / x5_6))
def F_X6_share_l6 (K_ : Int64 → Int64 → Int64) : Nat → Int64 → Int64 → Int64
  | 0, x5_6, x7_6 => K_ x5_6 x7_6
  | d6 + 1, x5_6, x7_6 => (if (lg_cmp x7_6 (0 : Int64)) = 0 then (K_ x5_6 x7_6) else (F_X6_share_l6 K_ d6 x7_6 (x5_6 - x5_6 / x7_6 * x7_6)))
def F_X6_share (u : Int64) (w : Int32) : Int64 :=
  (F_X6_share_l6 (F_X6_share_k6 u w) 12 u (10 : Int64))
set_option maxHeartbeats 4000000 in
set_option maxRecDepth 100000 in
theorem c_X6_share (l : Launch) (D : va_G) (cI cO : ClassId) (u : Int64) (w : Int32) (na : Nat) (hu : u = lN na) (hna : na ≤ 10) : zR l yX6_share wsX6_share ({ frames := 0, cells := 0, slots := 0, locals := 0 } : Room) D cI cO [.long u, .long (10 : Int64), .int w] [] (some (.long (F_X6_share u w))) := by
  refine zR_of (nL := 11) (cc := cX6_share) (ret := some .long) (lv := [(0, .long u), (2, .long (10 : Int64)), (4, .int w)]) (by decide +kernel) rfl (Nat.le_of_ble_eq_true rfl) rfl (fun p e s m args below meth c C hr hlk => ?_)
  have hf := F_X6_share.eq_1 u w
  refine z_lload_n C dX6_share_0 rfl 0 rfl ?_
  refine z_lstore C [(0, .long u), (2, .long (10 : Int64)), (4, .int w), (5, .long u)] dX6_share_1 (by decide) [1, 2, 3, 0] rfl ?_
  refine z_lload_n C dX6_share_3 rfl 1 rfl ?_
  refine z_lstore C [(0, .long u), (2, .long (10 : Int64)), (4, .int w), (5, .long u), (7, .long (10 : Int64))] dX6_share_4 (by decide) [1, 2, 3, 4, 0] rfl ?_
  have X6 : ∀ (x5_6 : Int64) (x7_6 : Int64) (hx : ¬ x5_6 = 0), F_X6_share u w = (F_X6_share_k6 u w) x5_6 x7_6 → zG p l e ({ frames := 0, cells := 0, slots := 0, locals := 0 } : Room) s m args below meth c D (fun _ => True) (zXr s) 11 0 0 (MQ below (zQr (some (.long (F_X6_share u w)))) args s 0 0 (fun _ => False)) 31 [(0, .long u), (2, .long (10 : Int64)), (4, .int w), (5, .long x5_6), (7, .long x7_6)] [] [] := by
    intro x5_6 x7_6 hx hf
    rw [F_X6_share_k6] at hf
    skip
    refine z_iload C dX6_share_31 2 rfl ?_
    refine z_if_ne (tgt := 40) C dX6_share_33 (by decide) (fun c33 => ?_) (fun c33 => ?_)
    · rw [if_neg c33] at hf
      refine z_lload_n C dX6_share_40 rfl 1 rfl ?_
      refine z_lload C dX6_share_41 3 rfl ?_
      refine z_ldiv C dX6_share_43 hx ?_
      exact z_lretR C hr hlk (by rw [hf]) dX6_share_44
    · rw [if_pos c33] at hf
      refine z_lload_n C dX6_share_36 rfl 0 rfl ?_
      refine z_goto (tgt := 41) C dX6_share_37 (by decide) ?_
      refine z_lload C dX6_share_41 3 rfl ?_
      refine z_ldiv C dX6_share_43 hx ?_
      exact z_lretR C hr hlk (by rw [hf]) dX6_share_44
  have L6 : ∀ (d6 : Nat) (a b : Nat) (x5_6 : Int64) (x7_6 : Int64) (ea : x5_6 = lN a) (eb : x7_6 = lN b) (ha : a ≤ 10) (hb : b ≤ 10) (hab : 0 < a + b) (hd : b < d6), F_X6_share u w = F_X6_share_l6 (F_X6_share_k6 u w) d6 x5_6 x7_6 → zG p l e ({ frames := 0, cells := 0, slots := 0, locals := 0 } : Room) s m args below meth c D (fun _ => True) (zXr s) 11 0 0 (MQ below (zQr (some (.long (F_X6_share u w)))) args s 0 0 (fun _ => False)) 6 [(0, .long u), (2, .long (10 : Int64)), (4, .int w), (5, .long x5_6), (7, .long x7_6)] [] [] := by
    intro d6
    induction d6 with
    | zero =>
      intro a b x5_6 x7_6 ea eb ha hb hab hd hf
      exfalso; omega
    | succ d6 ih6 =>
      intro a b x5_6 x7_6 ea eb ha hb hab hd hf
      rw [F_X6_share_l6] at hf
      skip
      refine z_lload C dX6_share_6 4 rfl ?_
      refine z_lconst (v := (0 : Int64)) C dX6_share_8 (by decide) ?_
      refine z_lcmp C dX6_share_9 ?_
      refine z_if_eq (tgt := 31) C dX6_share_10 (by decide) (fun c10 => ?_) (fun c10 => ?_)
      · rw [if_pos c10] at hf
        exact X6 x5_6 x7_6 (by have q := z_l0 c10; rw [eb] at q; have q2 := (lN_eq (by omega) (by omega)).mp (q.trans (by rfl : (0 : Int64) = lN 0)); intro z; rw [ea] at z; have z2 := (lN_eq (by omega) (by omega)).mp (z.trans (by rfl : (0 : Int64) = lN 0)); omega) hf
      · rw [if_neg c10] at hf
        refine z_lload C dX6_share_13 3 rfl ?_
        refine z_lload C dX6_share_15 4 rfl ?_
        refine z_lrem C dX6_share_17 (z_lne c10) ?_
        refine z_lstore C [(0, .long u), (2, .long (10 : Int64)), (4, .int w), (5, .long x5_6), (7, .long x7_6), (9, .long (x5_6 - x5_6 / x7_6 * x7_6))] dX6_share_18 (by decide) [1, 2, 3, 4, 5, 0] rfl ?_
        refine z_lload C dX6_share_20 4 rfl ?_
        refine z_lstore C [(0, .long u), (2, .long (10 : Int64)), (4, .int w), (5, .long x7_6), (7, .long x7_6), (9, .long (x5_6 - x5_6 / x7_6 * x7_6))] dX6_share_22 (by decide) [1, 2, 3, 0, 4, 5] rfl ?_
        refine z_lload C dX6_share_24 5 rfl ?_
        refine z_lstore C [(0, .long u), (2, .long (10 : Int64)), (4, .int w), (5, .long x7_6), (7, .long (x5_6 - x5_6 / x7_6 * x7_6)), (9, .long (x5_6 - x5_6 / x7_6 * x7_6))] dX6_share_26 (by decide) [1, 2, 3, 4, 0, 5] rfl ?_
        refine z_goto (tgt := 6) C dX6_share_28 (by decide) ?_
        refine z_ls [(0, .long u), (2, .long (10 : Int64)), (4, .int w), (5, .long x7_6), (7, .long (x5_6 - x5_6 / x7_6 * x7_6))] [0, 1, 2, 3, 4] rfl ?_
        exact ih6 b (a % b) x7_6 (x5_6 - x5_6 / x7_6 * x7_6) eb (by rw [ea, eb]; exact pk_lRem (by omega) (lN_pos eb (z_lne c10)) (by omega)) hb (by have := Nat.mod_lt a (lN_pos eb (z_lne c10)); omega) (by have := lN_pos eb (z_lne c10); omega) (by have := Nat.mod_lt a (lN_pos eb (z_lne c10)); omega) hf
  exact L6 12 na 10 u (10 : Int64) hu (by rfl) hna (by omega) (by omega) (by omega) hf
-- X6_odds
theorem m_X6_odds_1 : Cond.constantLong RX6 117 (2) ∈ wsX6_odds := List.mem_of_getElem? (i := 1) rfl
theorem m_X6_odds_2 : Cond.constantLong RX6 155 (5) ∈ wsX6_odds := List.mem_of_getElem? (i := 2) rfl
theorem i_X6_odds_6 : ∀ w ∈ u_ws RX6 TX6 30, w ∈ wsX6_odds := by decide +kernel
theorem m_X6_odds_3 : Cond.fieldLink RX6 68 "WishPinsModel" "pins" "I" ∈ wsX6_odds := List.mem_of_getElem? (i := 3) rfl
theorem m_X6_odds_5 : Cond.constantLong RX6 172 (10) ∈ wsX6_odds := List.mem_of_getElem? (i := 5) rfl
theorem m_X6_odds_4 : Cond.fieldLink RX6 132 "WishPinsModel" "yearNow" "I" ∈ wsX6_odds := List.mem_of_getElem? (i := 4) rfl
def F_X6_odds_k51 (w : Int32) (x4_51 : Int64) (x6_51 : Int32) : Int64 :=
  (F_X6_share x4_51 w)
def F_X6_odds_l51 (sl : Int32) (dr : Int32) (yn : Int32) (k : Int32) (v : Int32) (K_ : Int64 → Int32 → Int64) : Nat → Int64 → Int32 → Int64
  | 0, x4_51, x6_51 => K_ x4_51 x6_51
  | d51 + 1, x4_51, x6_51 => (if (10 : Int32) ≤ x6_51 then (K_ x4_51 x6_51) else (if (F_X6_wishBy sl dr (F_X6_turnBy k x6_51) yn) = v then (F_X6_odds_l51 sl dr yn k v K_ d51 (x4_51 + (1 : Int64)) (x6_51 + (1 : Int32))) else (F_X6_odds_l51 sl dr yn k v K_ d51 (x4_51 + (0 : Int64)) (x6_51 + (1 : Int32)))))
def F_X6_odds (pn : Int32) (sl : Int32) (dr : Int32) (yn : Int32) (k : Int32) (v : Int32) (w : Int32) : Int64 :=
  (if (F_X6_in k.toInt64 (0 : Int64) (2 : Int64)) = 0 then F_X6_lost else (if (F_X6_in v.toInt64 (0 : Int64) (5 : Int64)) = 0 then F_X6_lost else (if (F_X6_in w.toInt64 (0 : Int64) (1 : Int64)) = 0 then F_X6_lost else (if pn = 0 then F_X6_lost else (F_X6_odds_l51 sl dr yn k v (F_X6_odds_k51 w) 11 (0 : Int64) (0 : Int32))))))
set_option maxHeartbeats 4000000 in
set_option maxRecDepth 100000 in
theorem c_X6_odds (l : Launch) (D : va_G) (cI cO : ClassId) (h6 : Nat) (q : Nat → Nat) (fl : Int32) (pn : Int32) (sl : Int32) (dr : Int32) (yn : Int32) (ra : Int32) (rp : Int32) (rs : Int32) (rd : Int32) (ry : Int32) (pk : Int32) (yk : Int32) (rg : Int32) (tc : Int32) (k : Int32) (v : Int32) (w : Int32) : zR l yX6_odds wsX6_odds ({ frames := 1, cells := 0, slots := 0, locals := 30 } : Room) D cI cO [.ref h6, .int k, .int v, .int w] [(h6, .inr (6, fM fl pn sl dr yn ra rp rs rd ry pk yk rg tc q))] (some (.long (F_X6_odds pn sl dr yn k v w))) := by
  refine zR_of (nL := 7) (cc := cX6_odds) (ret := some .long) (lv := [(0, .ref h6), (1, .int k), (2, .int v), (3, .int w)]) (by decide +kernel) rfl (Nat.le_of_ble_eq_true rfl) rfl (fun p e s m args below meth c C hr hlk => ?_)
  have hf := F_X6_odds.eq_1 pn sl dr yn k v w
  refine z_iload_n C dX6_odds_0 rfl 1 rfl ?_
  refine z_i2l C dX6_odds_1 ?_
  refine z_lconst (v := (0 : Int64)) C dX6_odds_2 (by decide) ?_
  refine z_ldc2 C m_X6_odds_1 dX6_odds_3 ?_
  refine z_cSR (As := [.long k.toInt64, .long (0 : Int64), .long (2 : Int64)]) C (c_X6_in l D cI cO k.toInt64 (0 : Int64) (2 : Int64)) (va_cwS 3 C.2.2.2.2.1 gX6_odds_X6_in rfl rfl rfl hdS_X6_in ⟨Nat.le_of_ble_eq_true rfl, Nat.le_of_ble_eq_true rfl⟩) [] rfl rfl rfl _ rfl (Nat.le_of_ble_eq_true rfl) ⟨Nat.zero_le _, Nat.zero_le _⟩ dX6_odds_6 ?_
  generalize hu6 : (F_X6_in k.toInt64 (0 : Int64) (2 : Int64)) = u6 at hf ⊢
  refine z_if_eq (tgt := 41) C dX6_odds_9 (by decide) (fun c9 => ?_) (fun c9 => ?_)
  · rw [if_pos c9] at hf
    have b9 := c9
    rw [← hu6] at c9
    refine z_cSR (As := []) C (c_X6_lost l D cI cO) (va_cwS 0 C.2.2.2.2.1 gX6_odds_X6_lost rfl rfl rfl hdS_X6_lost ⟨Nat.le_of_ble_eq_true rfl, Nat.le_of_ble_eq_true rfl⟩) [] rfl rfl rfl _ rfl (Nat.le_of_ble_eq_true rfl) ⟨Nat.zero_le _, Nat.zero_le _⟩ dX6_odds_41 ?_
    generalize hu41 : F_X6_lost = u41 at hf ⊢
    exact z_lretR C hr hlk (by rw [hf]) dX6_odds_44
  · rw [if_neg c9] at hf
    have b9 := c9
    rw [← hu6] at c9
    refine z_iload_n C dX6_odds_12 rfl 2 rfl ?_
    refine z_i2l C dX6_odds_13 ?_
    refine z_lconst (v := (0 : Int64)) C dX6_odds_14 (by decide) ?_
    refine z_ldc2 C m_X6_odds_2 dX6_odds_15 ?_
    refine z_cSR (As := [.long v.toInt64, .long (0 : Int64), .long (5 : Int64)]) C (c_X6_in l D cI cO v.toInt64 (0 : Int64) (5 : Int64)) (va_cwS 3 C.2.2.2.2.1 gX6_odds_X6_in rfl rfl rfl hdS_X6_in ⟨Nat.le_of_ble_eq_true rfl, Nat.le_of_ble_eq_true rfl⟩) [] rfl rfl rfl _ rfl (Nat.le_of_ble_eq_true rfl) ⟨Nat.zero_le _, Nat.zero_le _⟩ dX6_odds_18 ?_
    generalize hu18 : (F_X6_in v.toInt64 (0 : Int64) (5 : Int64)) = u18 at hf ⊢
    refine z_if_eq (tgt := 41) C dX6_odds_21 (by decide) (fun c21 => ?_) (fun c21 => ?_)
    · rw [if_pos c21] at hf
      have b21 := c21
      rw [← hu18] at c21
      refine z_cSR (As := []) C (c_X6_lost l D cI cO) (va_cwS 0 C.2.2.2.2.1 gX6_odds_X6_lost rfl rfl rfl hdS_X6_lost ⟨Nat.le_of_ble_eq_true rfl, Nat.le_of_ble_eq_true rfl⟩) [] rfl rfl rfl _ rfl (Nat.le_of_ble_eq_true rfl) ⟨Nat.zero_le _, Nat.zero_le _⟩ dX6_odds_41 ?_
      generalize hu41 : F_X6_lost = u41 at hf ⊢
      exact z_lretR C hr hlk (by rw [hf]) dX6_odds_44
    · rw [if_neg c21] at hf
      have b21 := c21
      rw [← hu18] at c21
      refine z_iload_n C dX6_odds_24 rfl 3 rfl ?_
      refine z_i2l C dX6_odds_25 ?_
      refine z_lconst (v := (0 : Int64)) C dX6_odds_26 (by decide) ?_
      refine z_lconst (v := (1 : Int64)) C dX6_odds_27 (by decide) ?_
      refine z_cSR (As := [.long w.toInt64, .long (0 : Int64), .long (1 : Int64)]) C (c_X6_in l D cI cO w.toInt64 (0 : Int64) (1 : Int64)) (va_cwS 3 C.2.2.2.2.1 gX6_odds_X6_in rfl rfl rfl hdS_X6_in ⟨Nat.le_of_ble_eq_true rfl, Nat.le_of_ble_eq_true rfl⟩) [] rfl rfl rfl _ rfl (Nat.le_of_ble_eq_true rfl) ⟨Nat.zero_le _, Nat.zero_le _⟩ dX6_odds_28 ?_
      generalize hu28 : (F_X6_in w.toInt64 (0 : Int64) (1 : Int64)) = u28 at hf ⊢
      refine z_if_eq (tgt := 41) C dX6_odds_31 (by decide) (fun c31 => ?_) (fun c31 => ?_)
      · rw [if_pos c31] at hf
        have b31 := c31
        rw [← hu28] at c31
        refine z_cSR (As := []) C (c_X6_lost l D cI cO) (va_cwS 0 C.2.2.2.2.1 gX6_odds_X6_lost rfl rfl rfl hdS_X6_lost ⟨Nat.le_of_ble_eq_true rfl, Nat.le_of_ble_eq_true rfl⟩) [] rfl rfl rfl _ rfl (Nat.le_of_ble_eq_true rfl) ⟨Nat.zero_le _, Nat.zero_le _⟩ dX6_odds_41 ?_
        generalize hu41 : F_X6_lost = u41 at hf ⊢
        exact z_lretR C hr hlk (by rw [hf]) dX6_odds_44
      · rw [if_neg c31] at hf
        have b31 := c31
        rw [← hu28] at c31
        refine z_aload_n C dX6_odds_34 rfl 0 rfl ?_
        refine z_get (T := TX6) (v := .int pn) C i_X6_odds_6 0 rfl rfl 1 (by decide) m_X6_odds_3 rfl rfl dX6_odds_35 ?_
        refine z_if_ne (tgt := 45) C dX6_odds_38 (by decide) (fun c38 => ?_) (fun c38 => ?_)
        · rw [if_neg c38] at hf
          refine z_lconst (v := (0 : Int64)) C dX6_odds_45 (by decide) ?_
          refine z_lstore C [(0, .ref h6), (1, .int k), (2, .int v), (3, .int w), (4, .long (0 : Int64))] dX6_odds_46 (by decide) [1, 2, 3, 4, 0] rfl ?_
          refine z_iconst (v := (0 : Int32)) C dX6_odds_48 (by decide) ?_
          refine z_istore C [(0, .ref h6), (1, .int k), (2, .int v), (3, .int w), (4, .long (0 : Int64)), (6, .int (0 : Int32))] dX6_odds_49 (by decide) [1, 2, 3, 4, 5, 0] rfl ?_
          have X51 : ∀ (x4_51 : Int64) (x6_51 : Int32) (hbx : ∃ b, b ≤ 10 ∧ x4_51 = lN b), F_X6_odds pn sl dr yn k v w = (F_X6_odds_k51 w) x4_51 x6_51 → zG p l e ({ frames := 1, cells := 0, slots := 0, locals := 30 } : Room) s m args below meth c D (fun _ => True) (zXr s) 7 0 0 (MQ below (zQr (some (.long (F_X6_odds pn sl dr yn k v w)))) args s 0 0 (fun _ => False)) 92 [(0, .ref h6), (1, .int k), (2, .int v), (3, .int w), (4, .long x4_51), (6, .int x6_51)] [] [(h6, .inr (6, fM fl pn sl dr yn ra rp rs rd ry pk yk rg tc q))] := by
            intro x4_51 x6_51 hbx hf
            rw [F_X6_odds_k51] at hf
            skip
            refine z_lload C dX6_odds_92 4 rfl ?_
            refine z_ldc2 C m_X6_odds_5 dX6_odds_94 ?_
            refine z_iload_n C dX6_odds_97 rfl 3 rfl ?_
            obtain ⟨nb, hb1, hb2⟩ := hbx
            refine z_cSR (As := [.long x4_51, .long (10 : Int64), .int w]) C (c_X6_share l D cI cO x4_51 w nb (by subst hu28 hu18 hu6; exact hb2) (by subst hu28 hu18 hu6; exact hb1)) (va_cwS 3 C.2.2.2.2.1 gX6_odds_X6_share rfl rfl rfl hdS_X6_share ⟨Nat.le_of_ble_eq_true rfl, Nat.le_of_ble_eq_true rfl⟩) [] rfl rfl rfl _ rfl (Nat.le_of_ble_eq_true rfl) ⟨Nat.zero_le _, Nat.zero_le _⟩ dX6_odds_98 ?_
            generalize hu98 : (F_X6_share x4_51 w) = u98 at hf ⊢
            exact z_lretR C hr hlk (by rw [hf]) dX6_odds_101
          have L51 : ∀ (d51 : Nat) (j : Nat) (x4_51 : Int64) (x6_51 : Int32) (e6 : x6_51 = nI j) (hj : j ≤ 10) (hd : 10 < j + d51) (hb : ∃ b, b ≤ j ∧ x4_51 = lN b), F_X6_odds pn sl dr yn k v w = F_X6_odds_l51 sl dr yn k v (F_X6_odds_k51 w) d51 x4_51 x6_51 → zG p l e ({ frames := 1, cells := 0, slots := 0, locals := 30 } : Room) s m args below meth c D (fun _ => True) (zXr s) 7 0 0 (MQ below (zQr (some (.long (F_X6_odds pn sl dr yn k v w)))) args s 0 0 (fun _ => False)) 51 [(0, .ref h6), (1, .int k), (2, .int v), (3, .int w), (4, .long x4_51), (6, .int x6_51)] [] [(h6, .inr (6, fM fl pn sl dr yn ra rp rs rd ry pk yk rg tc q))] := by
            intro d51
            induction d51 with
            | zero =>
              intro j x4_51 x6_51 e6 hj hd hb hf
              exfalso; omega
            | succ d51 ih51 =>
              intro j x4_51 x6_51 e6 hj hd hb hf
              rw [F_X6_odds_l51] at hf
              skip
              refine z_iload C dX6_odds_51 5 rfl ?_
              refine z_bipush (v := (10 : Int32)) C dX6_odds_53 (by decide) ?_
              refine z_icmp_ge (tgt := 92) C dX6_odds_55 (by decide) (fun c55 => ?_) (fun c55 => ?_)
              · rw [if_pos c55] at hf
                exact X51 x4_51 x6_51 (by subst hu28 hu18 hu6; exact (by obtain ⟨b, h1, h2⟩ := hb; exact ⟨b, by omega, h2⟩)) hf
              · rw [if_neg c55] at hf
                refine z_lload C dX6_odds_58 4 rfl ?_
                refine z_aload_n C dX6_odds_60 rfl 0 rfl ?_
                refine z_iload_n C dX6_odds_61 rfl 1 rfl ?_
                refine z_iload C dX6_odds_62 5 rfl ?_
                refine z_cSR (As := [.int k, .int x6_51]) C (c_X6_turnBy l D cI cO k x6_51) (va_cwS 2 C.2.2.2.2.1 gX6_odds_X6_turnBy rfl rfl rfl hdS_X6_turnBy ⟨Nat.le_of_ble_eq_true rfl, Nat.le_of_ble_eq_true rfl⟩) [] rfl rfl rfl _ rfl (Nat.le_of_ble_eq_true rfl) ⟨Nat.zero_le _, Nat.zero_le _⟩ dX6_odds_64 ?_
                generalize hu64 : (F_X6_turnBy k x6_51) = u64 at hf ⊢
                refine z_aload_n C dX6_odds_67 rfl 0 rfl ?_
                refine z_get (T := TX6) (v := .int yn) C i_X6_odds_6 0 rfl rfl 4 (by decide) m_X6_odds_4 rfl rfl dX6_odds_68 ?_
                refine z_cVR (As := [.int u64, .int yn]) C (c_X6_wishBy l D cI cO h6 q fl pn sl dr yn ra rp rs rd ry pk yk rg tc u64 yn) (cwV 2 C.2.2.2.2.1 gX6_odds_X6_wishBy rfl rfl rfl hdV_X6_wishBy ⟨Nat.le_of_ble_eq_true rfl, Nat.le_of_ble_eq_true rfl⟩) [0] rfl rfl 0 rfl rfl rfl _ rfl (Nat.le_of_ble_eq_true rfl) ⟨Nat.zero_le _, Nat.zero_le _⟩ dX6_odds_71 ?_
                generalize hu71 : (F_X6_wishBy sl dr u64 yn) = u71 at hf ⊢
                refine z_iload_n C dX6_odds_74 rfl 2 rfl ?_
                refine z_icmp_ne (tgt := 82) C dX6_odds_75 (by decide) (fun c75 => ?_) (fun c75 => ?_)
                · rw [if_neg c75] at hf
                  have b75 := c75
                  rw [← hu71] at c75
                  refine z_lconst (v := (0 : Int64)) C dX6_odds_82 (by decide) ?_
                  refine z_ladd C dX6_odds_83 ?_
                  refine z_lstore C [(0, .ref h6), (1, .int k), (2, .int v), (3, .int w), (4, .long (x4_51 + (0 : Int64))), (6, .int x6_51)] dX6_odds_84 (by decide) [1, 2, 3, 4, 0, 5] rfl ?_
                  refine z_iinc (v := (x6_51 + (1 : Int32))) C [(0, .ref h6), (1, .int k), (2, .int v), (3, .int w), (4, .long (x4_51 + (0 : Int64))), (6, .int (x6_51 + (1 : Int32)))] dX6_odds_86 5 rfl (by rfl) (by decide) [1, 2, 3, 4, 5, 0] rfl ?_
                  refine z_goto (tgt := 51) C dX6_odds_89 (by decide) ?_
                  exact ih51 (j + 1) (x4_51 + (0 : Int64)) (x6_51 + (1 : Int32)) (by subst hu71 hu64 hu28 hu18 hu6; exact (by rw [e6]; exact nI_1 j)) (by subst hu71 hu64 hu28 hu18 hu6; exact (by have := z_jlt (n := 10) e6 (by omega) (by decide) c55; omega)) (by omega) (by subst hu71 hu64 hu28 hu18 hu6; exact (by obtain ⟨b, h1, h2⟩ := hb; first | exact ⟨b + 1, by omega, by rw [h2]; exact lN_1 b⟩ | exact ⟨b, by omega, by rw [h2]; exact Int64.add_zero _⟩)) hf
                · rw [if_pos c75] at hf
                  have b75 := c75
                  rw [← hu71] at c75
                  refine z_lconst (v := (1 : Int64)) C dX6_odds_78 (by decide) ?_
                  refine z_goto (tgt := 83) C dX6_odds_79 (by decide) ?_
                  refine z_ladd C dX6_odds_83 ?_
                  refine z_lstore C [(0, .ref h6), (1, .int k), (2, .int v), (3, .int w), (4, .long (x4_51 + (1 : Int64))), (6, .int x6_51)] dX6_odds_84 (by decide) [1, 2, 3, 4, 0, 5] rfl ?_
                  refine z_iinc (v := (x6_51 + (1 : Int32))) C [(0, .ref h6), (1, .int k), (2, .int v), (3, .int w), (4, .long (x4_51 + (1 : Int64))), (6, .int (x6_51 + (1 : Int32)))] dX6_odds_86 5 rfl (by rfl) (by decide) [1, 2, 3, 4, 5, 0] rfl ?_
                  refine z_goto (tgt := 51) C dX6_odds_89 (by decide) ?_
                  exact ih51 (j + 1) (x4_51 + (1 : Int64)) (x6_51 + (1 : Int32)) (by subst hu71 hu64 hu28 hu18 hu6; exact (by rw [e6]; exact nI_1 j)) (by subst hu71 hu64 hu28 hu18 hu6; exact (by have := z_jlt (n := 10) e6 (by omega) (by decide) c55; omega)) (by omega) (by subst hu71 hu64 hu28 hu18 hu6; exact (by obtain ⟨b, h1, h2⟩ := hb; first | exact ⟨b + 1, by omega, by rw [h2]; exact lN_1 b⟩ | exact ⟨b, by omega, by rw [h2]; exact Int64.add_zero _⟩)) hf
          exact L51 11 0 (0 : Int64) (0 : Int32) (by subst hu28 hu18 hu6; exact nI_0.symm) (by subst hu28 hu18 hu6; exact (Nat.zero_le _)) (by omega) (by subst hu28 hu18 hu6; exact ⟨0, Nat.le_refl 0, by rfl⟩) hf
        · rw [if_pos c38] at hf
          refine z_cSR (As := []) C (c_X6_lost l D cI cO) (va_cwS 0 C.2.2.2.2.1 gX6_odds_X6_lost rfl rfl rfl hdS_X6_lost ⟨Nat.le_of_ble_eq_true rfl, Nat.le_of_ble_eq_true rfl⟩) [] rfl rfl rfl _ rfl (Nat.le_of_ble_eq_true rfl) ⟨Nat.zero_le _, Nat.zero_le _⟩ dX6_odds_41 ?_
          generalize hu41 : F_X6_lost = u41 at hf ⊢
          exact z_lretR C hr hlk (by rw [hf]) dX6_odds_44
