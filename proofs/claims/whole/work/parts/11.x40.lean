-- X4_fill
theorem i_X4_fill_4 : ∀ w ∈ u_ws RX4 TX4 7, w ∈ wsX4_fill := by decide +kernel
theorem m_X4_fill_1 : Cond.fieldLink RX4 27 "WishPins$Well" "slope" "I" ∈ wsX4_fill := List.mem_of_getElem? (i := 1) rfl
theorem m_X4_fill_2 : Cond.fieldLink RX4 31 "WishPins$Well" "drift" "I" ∈ wsX4_fill := List.mem_of_getElem? (i := 2) rfl
theorem m_X4_fill_3 : Cond.fieldLink RX4 34 "WishPins$Well" "pins" "I" ∈ wsX4_fill := List.mem_of_getElem? (i := 3) rfl
theorem m_X4_fill_4 : Cond.fieldLink RX4 37 "WishPins$Well" "now" "I" ∈ wsX4_fill := List.mem_of_getElem? (i := 4) rfl
def F_X4_fill_k43 (lg : Int32) (cl : Nat → Int32) (ti : Int32) (x4_43 : Int32) (pn_43 : Int32) (nw_43 : Int32) (kd_43 : Nat → Int32) (bd_43 : Nat → Int32) (yr_43 : Nat → Int32) : Int32 × Int32 × Int32 × Int32 × (Nat → Int32) × (Nat → Int32) × (Nat → Int32) :=
  (pn_43, ((F_X3_at lg cl (ti + (1 : Int32))) - (48 : Int32)), ((F_X3_at lg cl (ti + (2 : Int32))) - (48 : Int32)), nw_43, kd_43, bd_43, yr_43)
def F_X4_fill_l43 (lg : Int32) (cl : Nat → Int32) (ti : Int32) (tn : Int32) (K_ : Int32 → Int32 → Int32 → (Nat → Int32) → (Nat → Int32) → (Nat → Int32) → Int32 × Int32 × Int32 × Int32 × (Nat → Int32) × (Nat → Int32) × (Nat → Int32)) : Nat → Int32 → Int32 → Int32 → (Nat → Int32) → (Nat → Int32) → (Nat → Int32) → Int32 × Int32 × Int32 × Int32 × (Nat → Int32) × (Nat → Int32) × (Nat → Int32)
  | 0, x4_43, pn_43, nw_43, kd_43, bd_43, yr_43 => K_ x4_43 pn_43 nw_43 kd_43 bd_43 yr_43
  | d43 + 1, x4_43, pn_43, nw_43, kd_43, bd_43, yr_43 => (if (ti + tn) ≤ x4_43 then (K_ x4_43 pn_43 nw_43 kd_43 bd_43 yr_43) else (if (F_X3_at lg cl (x4_43 + (1 : Int32))) = (112 : Int32) then (F_X4_fill_l43 lg cl ti tn K_ d43 (x4_43 + (4 : Int32)) (F_X4_addTop pn_43 (nw_43 + ((F_X3_at lg cl (x4_43 + (3 : Int32))) - (48 : Int32))) kd_43 bd_43 yr_43 (0 : Int32) ((F_X3_at lg cl (x4_43 + (2 : Int32))) - (48 : Int32))).2.1 (nw_43 + ((F_X3_at lg cl (x4_43 + (3 : Int32))) - (48 : Int32))) (F_X4_addTop pn_43 (nw_43 + ((F_X3_at lg cl (x4_43 + (3 : Int32))) - (48 : Int32))) kd_43 bd_43 yr_43 (0 : Int32) ((F_X3_at lg cl (x4_43 + (2 : Int32))) - (48 : Int32))).2.2.1 (F_X4_addTop pn_43 (nw_43 + ((F_X3_at lg cl (x4_43 + (3 : Int32))) - (48 : Int32))) kd_43 bd_43 yr_43 (0 : Int32) ((F_X3_at lg cl (x4_43 + (2 : Int32))) - (48 : Int32))).2.2.2.1 (F_X4_addTop pn_43 (nw_43 + ((F_X3_at lg cl (x4_43 + (3 : Int32))) - (48 : Int32))) kd_43 bd_43 yr_43 (0 : Int32) ((F_X3_at lg cl (x4_43 + (2 : Int32))) - (48 : Int32))).2.2.2.2) else (if (F_X3_at lg cl (x4_43 + (1 : Int32))) = (99 : Int32) then (F_X4_fill_l43 lg cl ti tn K_ d43 (x4_43 + (4 : Int32)) (F_X4_addTop pn_43 (nw_43 + ((F_X3_at lg cl (x4_43 + (3 : Int32))) - (48 : Int32))) kd_43 bd_43 yr_43 (1 : Int32) ((F_X3_at lg cl (x4_43 + (2 : Int32))) - (48 : Int32))).2.1 (nw_43 + ((F_X3_at lg cl (x4_43 + (3 : Int32))) - (48 : Int32))) (F_X4_addTop pn_43 (nw_43 + ((F_X3_at lg cl (x4_43 + (3 : Int32))) - (48 : Int32))) kd_43 bd_43 yr_43 (1 : Int32) ((F_X3_at lg cl (x4_43 + (2 : Int32))) - (48 : Int32))).2.2.1 (F_X4_addTop pn_43 (nw_43 + ((F_X3_at lg cl (x4_43 + (3 : Int32))) - (48 : Int32))) kd_43 bd_43 yr_43 (1 : Int32) ((F_X3_at lg cl (x4_43 + (2 : Int32))) - (48 : Int32))).2.2.2.1 (F_X4_addTop pn_43 (nw_43 + ((F_X3_at lg cl (x4_43 + (3 : Int32))) - (48 : Int32))) kd_43 bd_43 yr_43 (1 : Int32) ((F_X3_at lg cl (x4_43 + (2 : Int32))) - (48 : Int32))).2.2.2.2) else (F_X4_fill_l43 lg cl ti tn K_ d43 (x4_43 + (4 : Int32)) (F_X4_addTop pn_43 (nw_43 + ((F_X3_at lg cl (x4_43 + (3 : Int32))) - (48 : Int32))) kd_43 bd_43 yr_43 (2 : Int32) ((F_X3_at lg cl (x4_43 + (2 : Int32))) - (48 : Int32))).2.1 (nw_43 + ((F_X3_at lg cl (x4_43 + (3 : Int32))) - (48 : Int32))) (F_X4_addTop pn_43 (nw_43 + ((F_X3_at lg cl (x4_43 + (3 : Int32))) - (48 : Int32))) kd_43 bd_43 yr_43 (2 : Int32) ((F_X3_at lg cl (x4_43 + (2 : Int32))) - (48 : Int32))).2.2.1 (F_X4_addTop pn_43 (nw_43 + ((F_X3_at lg cl (x4_43 + (3 : Int32))) - (48 : Int32))) kd_43 bd_43 yr_43 (2 : Int32) ((F_X3_at lg cl (x4_43 + (2 : Int32))) - (48 : Int32))).2.2.2.1 (F_X4_addTop pn_43 (nw_43 + ((F_X3_at lg cl (x4_43 + (3 : Int32))) - (48 : Int32))) kd_43 bd_43 yr_43 (2 : Int32) ((F_X3_at lg cl (x4_43 + (2 : Int32))) - (48 : Int32))).2.2.2.2))))
def F_X4_fill (kd : Nat → Int32) (bd : Nat → Int32) (yr : Nat → Int32) (lg : Int32) (cl : Nat → Int32) (ti : Int32) (tn : Int32) : Int32 × Int32 × Int32 × Int32 × (Nat → Int32) × (Nat → Int32) × (Nat → Int32) :=
  (F_X4_fill_l43 lg cl ti tn (F_X4_fill_k43 lg cl ti) 64 (ti + (3 : Int32)) (0 : Int32) (0 : Int32) kd bd yr)
set_option maxHeartbeats 4000000 in
set_option maxRecDepth 100000 in
theorem c_X4_fill (l : Launch) (D : va_G) (cI cO : ClassId) (h4 : Nat) (a1 : Nat) (a2 : Nat) (a3 : Nat) (pn : Int32) (sl : Int32) (dr : Int32) (nw : Int32) (kd : Nat → Int32) (bd : Nat → Int32) (yr : Nat → Int32) (h3 : Nat) (b1 : Nat) (ln : Int32) (lg : Int32) (cl : Nat → Int32) (ti : Int32) (tn : Int32) (I0 : Nat) (N0 : Nat) (hlg : lg ≤ 60) (hTI : ti = nI I0) (hTN : tn = nI N0) (hIN : I0 + N0 ≤ 60) : zW l yX4_fill wsX4_fill ({ frames := 2, cells := 0, slots := 0, locals := 43 } : Room) D cI cO [.ref h4, .ref h3, .int ti, .int tn] [(h4, .inr (4, [.ref a1, .ref a2, .ref a3, .int pn, .int sl, .int dr, .int nw])), (a1, .inl (cI, 9, .inl kd)), (a2, .inl (cI, 9, .inl bd)), (a3, .inl (cI, 9, .inl yr)), (h3, .inr (3, [.ref b1, .int ln, .int lg])), (b1, .inl (cI, 60, .inl cl))] [(h4, .inr (4, [.ref a1, .ref a2, .ref a3, .int ((F_X4_fill kd bd yr lg cl ti tn).1), .int ((F_X4_fill kd bd yr lg cl ti tn).2.1), .int ((F_X4_fill kd bd yr lg cl ti tn).2.2.1), .int ((F_X4_fill kd bd yr lg cl ti tn).2.2.2.1)])), (a1, .inl (cI, 9, .inl ((F_X4_fill kd bd yr lg cl ti tn).2.2.2.2.1))), (a2, .inl (cI, 9, .inl ((F_X4_fill kd bd yr lg cl ti tn).2.2.2.2.2.1))), (a3, .inl (cI, 9, .inl ((F_X4_fill kd bd yr lg cl ti tn).2.2.2.2.2.2))), (h3, .inr (3, [.ref b1, .int ln, .int lg])), (b1, .inl (cI, 60, .inl cl))] none := by
  refine zW_of (nL := 6) (cc := cX4_fill) (ret := none) (lv := [(0, .ref h4), (1, .ref h3), (2, .int ti), (3, .int tn)]) (by decide +kernel) rfl (Nat.le_of_ble_eq_true rfl) rfl (fun p e s m args below meth c C hr hlk => ?_)
  have hf := F_X4_fill.eq_1 kd bd yr lg cl ti tn
  refine z_aload_n C dX4_fill_0 rfl 0 rfl ?_
  refine z_aload_n C dX4_fill_1 rfl 1 rfl ?_
  refine z_iload_n C dX4_fill_2 rfl 2 rfl ?_
  refine z_iconst (v := (1 : Int32)) C dX4_fill_3 (by decide) ?_
  refine z_iadd C dX4_fill_4 ?_
  refine z_cVR (As := [.int (ti + (1 : Int32))]) C (c_X3_at l D cI cO h3 b1 ln lg cl (ti + (1 : Int32)) hlg) (cwV 1 C.2.2.2.2.1 gX4_fill_X3_at rfl rfl rfl hdV_X3_at ⟨Nat.le_of_ble_eq_true rfl, Nat.le_of_ble_eq_true rfl⟩) [4, 5] rfl rfl 4 rfl rfl rfl _ rfl (Nat.le_of_ble_eq_true rfl) ⟨Nat.zero_le _, Nat.zero_le _⟩ dX4_fill_5 ?_
  generalize hu5 : (F_X3_at lg cl (ti + (1 : Int32))) = u5 at hf ⊢
  refine z_bipush (v := (48 : Int32)) C dX4_fill_8 (by decide) ?_
  refine z_isub C dX4_fill_10 ?_
  refine z_put (T := TX4) (ty := .int) C [(h4, .inr (4, [.ref a1, .ref a2, .ref a3, .int pn, .int (u5 - (48 : Int32)), .int dr, .int nw])), (a1, .inl (cI, 9, .inl kd)), (a2, .inl (cI, 9, .inl bd)), (a3, .inl (cI, 9, .inl yr)), (h3, .inr (3, [.ref b1, .int ln, .int lg])), (b1, .inl (cI, 60, .inl cl))] i_X4_fill_4 tyX4 tyX4_ok nmX4 0 rfl rfl 4 (by decide) m_X4_fill_1 rfl rfl (by decide +kernel) rfl rfl (Nat.le_of_ble_eq_true rfl) dX4_fill_11 rfl ?_
  refine z_aload_n C dX4_fill_14 rfl 0 rfl ?_
  refine z_aload_n C dX4_fill_15 rfl 1 rfl ?_
  refine z_iload_n C dX4_fill_16 rfl 2 rfl ?_
  refine z_iconst (v := (2 : Int32)) C dX4_fill_17 (by decide) ?_
  refine z_iadd C dX4_fill_18 ?_
  refine z_cVR (As := [.int (ti + (2 : Int32))]) C (c_X3_at l D cI cO h3 b1 ln lg cl (ti + (2 : Int32)) (by subst hu5; exact hlg)) (cwV 1 C.2.2.2.2.1 gX4_fill_X3_at rfl rfl rfl hdV_X3_at ⟨Nat.le_of_ble_eq_true rfl, Nat.le_of_ble_eq_true rfl⟩) [4, 5] rfl rfl 4 rfl rfl rfl _ rfl (Nat.le_of_ble_eq_true rfl) ⟨Nat.zero_le _, Nat.zero_le _⟩ dX4_fill_19 ?_
  generalize hu19 : (F_X3_at lg cl (ti + (2 : Int32))) = u19 at hf ⊢
  refine z_bipush (v := (48 : Int32)) C dX4_fill_22 (by decide) ?_
  refine z_isub C dX4_fill_24 ?_
  refine z_put (T := TX4) (ty := .int) C [(h4, .inr (4, [.ref a1, .ref a2, .ref a3, .int pn, .int (u5 - (48 : Int32)), .int (u19 - (48 : Int32)), .int nw])), (a1, .inl (cI, 9, .inl kd)), (a2, .inl (cI, 9, .inl bd)), (a3, .inl (cI, 9, .inl yr)), (h3, .inr (3, [.ref b1, .int ln, .int lg])), (b1, .inl (cI, 60, .inl cl))] i_X4_fill_4 tyX4 tyX4_ok nmX4 0 rfl rfl 5 (by decide) m_X4_fill_2 rfl rfl (by decide +kernel) rfl rfl (Nat.le_of_ble_eq_true rfl) dX4_fill_25 rfl ?_
  refine z_aload_n C dX4_fill_28 rfl 0 rfl ?_
  refine z_iconst (v := (0 : Int32)) C dX4_fill_29 (by decide) ?_
  refine z_put (T := TX4) (ty := .int) C [(h4, .inr (4, [.ref a1, .ref a2, .ref a3, .int (0 : Int32), .int (u5 - (48 : Int32)), .int (u19 - (48 : Int32)), .int nw])), (a1, .inl (cI, 9, .inl kd)), (a2, .inl (cI, 9, .inl bd)), (a3, .inl (cI, 9, .inl yr)), (h3, .inr (3, [.ref b1, .int ln, .int lg])), (b1, .inl (cI, 60, .inl cl))] i_X4_fill_4 tyX4 tyX4_ok nmX4 0 rfl rfl 3 (by decide) m_X4_fill_3 rfl rfl (by decide +kernel) rfl rfl (Nat.le_of_ble_eq_true rfl) dX4_fill_30 rfl ?_
  refine z_aload_n C dX4_fill_33 rfl 0 rfl ?_
  refine z_iconst (v := (0 : Int32)) C dX4_fill_34 (by decide) ?_
  refine z_put (T := TX4) (ty := .int) C [(h4, .inr (4, [.ref a1, .ref a2, .ref a3, .int (0 : Int32), .int (u5 - (48 : Int32)), .int (u19 - (48 : Int32)), .int (0 : Int32)])), (a1, .inl (cI, 9, .inl kd)), (a2, .inl (cI, 9, .inl bd)), (a3, .inl (cI, 9, .inl yr)), (h3, .inr (3, [.ref b1, .int ln, .int lg])), (b1, .inl (cI, 60, .inl cl))] i_X4_fill_4 tyX4 tyX4_ok nmX4 0 rfl rfl 6 (by decide) m_X4_fill_4 rfl rfl (by decide +kernel) rfl rfl (Nat.le_of_ble_eq_true rfl) dX4_fill_35 rfl ?_
  refine z_iload_n C dX4_fill_38 rfl 2 rfl ?_
  refine z_iconst (v := (3 : Int32)) C dX4_fill_39 (by decide) ?_
  refine z_iadd C dX4_fill_40 ?_
  refine z_istore C [(0, .ref h4), (1, .ref h3), (2, .int ti), (3, .int tn), (4, .int (ti + (3 : Int32)))] dX4_fill_41 (by decide) [1, 2, 3, 4, 0] rfl ?_
  have X43 : ∀ (x4_43 : Int32) (pn_43 : Int32) (nw_43 : Int32) (kd_43 : Nat → Int32) (bd_43 : Nat → Int32) (yr_43 : Nat → Int32), F_X4_fill kd bd yr lg cl ti tn = (F_X4_fill_k43 lg cl ti) x4_43 pn_43 nw_43 kd_43 bd_43 yr_43 → zG p l e ({ frames := 2, cells := 0, slots := 0, locals := 43 } : Room) s m args below meth c D (zA [(h4, .inr (4, [.ref a1, .ref a2, .ref a3, .int pn, .int sl, .int dr, .int nw])), (a1, .inl (cI, 9, .inl kd)), (a2, .inl (cI, 9, .inl bd)), (a3, .inl (cI, 9, .inl yr)), (h3, .inr (3, [.ref b1, .int ln, .int lg])), (b1, .inl (cI, 60, .inl cl))]) (zXw (zA [(h4, .inr (4, [.ref a1, .ref a2, .ref a3, .int pn, .int sl, .int dr, .int nw])), (a1, .inl (cI, 9, .inl kd)), (a2, .inl (cI, 9, .inl bd)), (a3, .inl (cI, 9, .inl yr)), (h3, .inr (3, [.ref b1, .int ln, .int lg])), (b1, .inl (cI, 60, .inl cl))]) s.heap) 6 0 0 (MQ below (zQw D [(h4, .inr (4, [.ref a1, .ref a2, .ref a3, .int ((F_X4_fill kd bd yr lg cl ti tn).1), .int ((F_X4_fill kd bd yr lg cl ti tn).2.1), .int ((F_X4_fill kd bd yr lg cl ti tn).2.2.1), .int ((F_X4_fill kd bd yr lg cl ti tn).2.2.2.1)])), (a1, .inl (cI, 9, .inl ((F_X4_fill kd bd yr lg cl ti tn).2.2.2.2.1))), (a2, .inl (cI, 9, .inl ((F_X4_fill kd bd yr lg cl ti tn).2.2.2.2.2.1))), (a3, .inl (cI, 9, .inl ((F_X4_fill kd bd yr lg cl ti tn).2.2.2.2.2.2))), (h3, .inr (3, [.ref b1, .int ln, .int lg])), (b1, .inl (cI, 60, .inl cl))] (zA [(h4, .inr (4, [.ref a1, .ref a2, .ref a3, .int pn, .int sl, .int dr, .int nw])), (a1, .inl (cI, 9, .inl kd)), (a2, .inl (cI, 9, .inl bd)), (a3, .inl (cI, 9, .inl yr)), (h3, .inr (3, [.ref b1, .int ln, .int lg])), (b1, .inl (cI, 60, .inl cl))]) none) args s 0 0 (zA [(h4, .inr (4, [.ref a1, .ref a2, .ref a3, .int pn, .int sl, .int dr, .int nw])), (a1, .inl (cI, 9, .inl kd)), (a2, .inl (cI, 9, .inl bd)), (a3, .inl (cI, 9, .inl yr)), (h3, .inr (3, [.ref b1, .int ln, .int lg])), (b1, .inl (cI, 60, .inl cl))])) 126 [(0, .ref h4), (1, .ref h3), (2, .int ti), (3, .int tn), (4, .int x4_43)] [] [(h4, .inr (4, [.ref a1, .ref a2, .ref a3, .int pn_43, .int (u5 - (48 : Int32)), .int (u19 - (48 : Int32)), .int nw_43])), (a1, .inl (cI, 9, .inl kd_43)), (a2, .inl (cI, 9, .inl bd_43)), (a3, .inl (cI, 9, .inl yr_43)), (h3, .inr (3, [.ref b1, .int ln, .int lg])), (b1, .inl (cI, 60, .inl cl))] := by
    intro x4_43 pn_43 nw_43 kd_43 bd_43 yr_43 hf
    rw [F_X4_fill_k43] at hf
    simp only [hu5, hu19] at hf
    exact z_vretW C hr hlk (by rw [hf]) dX4_fill_126
  have L43 : ∀ (d43 : Nat) (a : Nat) (x4_43 : Int32) (pn_43 : Int32) (nw_43 : Int32) (kd_43 : Nat → Int32) (bd_43 : Nat → Int32) (yr_43 : Nat → Int32) (e4 : x4_43 = nI a) (ha : a ≤ I0 + N0 + 3) (hd : I0 + N0 + 3 < a + d43), F_X4_fill kd bd yr lg cl ti tn = F_X4_fill_l43 lg cl ti tn (F_X4_fill_k43 lg cl ti) d43 x4_43 pn_43 nw_43 kd_43 bd_43 yr_43 → zG p l e ({ frames := 2, cells := 0, slots := 0, locals := 43 } : Room) s m args below meth c D (zA [(h4, .inr (4, [.ref a1, .ref a2, .ref a3, .int pn, .int sl, .int dr, .int nw])), (a1, .inl (cI, 9, .inl kd)), (a2, .inl (cI, 9, .inl bd)), (a3, .inl (cI, 9, .inl yr)), (h3, .inr (3, [.ref b1, .int ln, .int lg])), (b1, .inl (cI, 60, .inl cl))]) (zXw (zA [(h4, .inr (4, [.ref a1, .ref a2, .ref a3, .int pn, .int sl, .int dr, .int nw])), (a1, .inl (cI, 9, .inl kd)), (a2, .inl (cI, 9, .inl bd)), (a3, .inl (cI, 9, .inl yr)), (h3, .inr (3, [.ref b1, .int ln, .int lg])), (b1, .inl (cI, 60, .inl cl))]) s.heap) 6 0 0 (MQ below (zQw D [(h4, .inr (4, [.ref a1, .ref a2, .ref a3, .int ((F_X4_fill kd bd yr lg cl ti tn).1), .int ((F_X4_fill kd bd yr lg cl ti tn).2.1), .int ((F_X4_fill kd bd yr lg cl ti tn).2.2.1), .int ((F_X4_fill kd bd yr lg cl ti tn).2.2.2.1)])), (a1, .inl (cI, 9, .inl ((F_X4_fill kd bd yr lg cl ti tn).2.2.2.2.1))), (a2, .inl (cI, 9, .inl ((F_X4_fill kd bd yr lg cl ti tn).2.2.2.2.2.1))), (a3, .inl (cI, 9, .inl ((F_X4_fill kd bd yr lg cl ti tn).2.2.2.2.2.2))), (h3, .inr (3, [.ref b1, .int ln, .int lg])), (b1, .inl (cI, 60, .inl cl))] (zA [(h4, .inr (4, [.ref a1, .ref a2, .ref a3, .int pn, .int sl, .int dr, .int nw])), (a1, .inl (cI, 9, .inl kd)), (a2, .inl (cI, 9, .inl bd)), (a3, .inl (cI, 9, .inl yr)), (h3, .inr (3, [.ref b1, .int ln, .int lg])), (b1, .inl (cI, 60, .inl cl))]) none) args s 0 0 (zA [(h4, .inr (4, [.ref a1, .ref a2, .ref a3, .int pn, .int sl, .int dr, .int nw])), (a1, .inl (cI, 9, .inl kd)), (a2, .inl (cI, 9, .inl bd)), (a3, .inl (cI, 9, .inl yr)), (h3, .inr (3, [.ref b1, .int ln, .int lg])), (b1, .inl (cI, 60, .inl cl))])) 43 [(0, .ref h4), (1, .ref h3), (2, .int ti), (3, .int tn), (4, .int x4_43)] [] [(h4, .inr (4, [.ref a1, .ref a2, .ref a3, .int pn_43, .int (u5 - (48 : Int32)), .int (u19 - (48 : Int32)), .int nw_43])), (a1, .inl (cI, 9, .inl kd_43)), (a2, .inl (cI, 9, .inl bd_43)), (a3, .inl (cI, 9, .inl yr_43)), (h3, .inr (3, [.ref b1, .int ln, .int lg])), (b1, .inl (cI, 60, .inl cl))] := by
    intro d43
    induction d43 with
    | zero =>
      intro a x4_43 pn_43 nw_43 kd_43 bd_43 yr_43 e4 ha hd hf
      exfalso; omega
    | succ d43 ih43 =>
      intro a x4_43 pn_43 nw_43 kd_43 bd_43 yr_43 e4 ha hd hf
      rw [F_X4_fill_l43] at hf
      skip
      refine z_iload C dX4_fill_43 4 rfl ?_
      refine z_iload_n C dX4_fill_45 rfl 2 rfl ?_
      refine z_iload_n C dX4_fill_46 rfl 3 rfl ?_
      refine z_iadd C dX4_fill_47 ?_
      refine z_icmp_ge (tgt := 126) C dX4_fill_48 (by decide) (fun c48 => ?_) (fun c48 => ?_)
      · rw [if_pos c48] at hf
        exact X43 x4_43 pn_43 nw_43 kd_43 bd_43 yr_43  hf
      · rw [if_neg c48] at hf
        refine z_aload_n C dX4_fill_51 rfl 1 rfl ?_
        refine z_iload C dX4_fill_52 4 rfl ?_
        refine z_iconst (v := (1 : Int32)) C dX4_fill_54 (by decide) ?_
        refine z_iadd C dX4_fill_55 ?_
        refine z_cVR (As := [.int (x4_43 + (1 : Int32))]) C (c_X3_at l D cI cO h3 b1 ln lg cl (x4_43 + (1 : Int32)) (by subst hu19 hu5; exact hlg)) (cwV 1 C.2.2.2.2.1 gX4_fill_X3_at rfl rfl rfl hdV_X3_at ⟨Nat.le_of_ble_eq_true rfl, Nat.le_of_ble_eq_true rfl⟩) [4, 5] rfl rfl 4 rfl rfl rfl _ rfl (Nat.le_of_ble_eq_true rfl) ⟨Nat.zero_le _, Nat.zero_le _⟩ dX4_fill_56 ?_
        generalize hu56 : (F_X3_at lg cl (x4_43 + (1 : Int32))) = u56 at hf ⊢
        refine z_istore C [(0, .ref h4), (1, .ref h3), (2, .int ti), (3, .int tn), (4, .int x4_43), (5, .int u56)] dX4_fill_59 (by decide) [1, 2, 3, 4, 5, 0] rfl ?_
        refine z_aload_n C dX4_fill_61 rfl 0 rfl ?_
        refine z_dup C dX4_fill_62 rfl ?_
        refine z_get (T := TX4) (v := .int nw_43) C i_X4_fill_4 0 rfl rfl 6 (by decide) m_X4_fill_4 rfl rfl dX4_fill_63 ?_
        refine z_aload_n C dX4_fill_66 rfl 1 rfl ?_
        refine z_iload C dX4_fill_67 4 rfl ?_
        refine z_iconst (v := (3 : Int32)) C dX4_fill_69 (by decide) ?_
        refine z_iadd C dX4_fill_70 ?_
        refine z_cVR (As := [.int (x4_43 + (3 : Int32))]) C (c_X3_at l D cI cO h3 b1 ln lg cl (x4_43 + (3 : Int32)) (by subst hu56 hu19 hu5; exact hlg)) (cwV 1 C.2.2.2.2.1 gX4_fill_X3_at rfl rfl rfl hdV_X3_at ⟨Nat.le_of_ble_eq_true rfl, Nat.le_of_ble_eq_true rfl⟩) [4, 5] rfl rfl 4 rfl rfl rfl _ rfl (Nat.le_of_ble_eq_true rfl) ⟨Nat.zero_le _, Nat.zero_le _⟩ dX4_fill_71 ?_
        generalize hu71 : (F_X3_at lg cl (x4_43 + (3 : Int32))) = u71 at hf ⊢
        refine z_bipush (v := (48 : Int32)) C dX4_fill_74 (by decide) ?_
        refine z_isub C dX4_fill_76 ?_
        refine z_iadd C dX4_fill_77 ?_
        refine z_put (T := TX4) (ty := .int) C [(h4, .inr (4, [.ref a1, .ref a2, .ref a3, .int pn_43, .int (u5 - (48 : Int32)), .int (u19 - (48 : Int32)), .int (nw_43 + (u71 - (48 : Int32)))])), (a1, .inl (cI, 9, .inl kd_43)), (a2, .inl (cI, 9, .inl bd_43)), (a3, .inl (cI, 9, .inl yr_43)), (h3, .inr (3, [.ref b1, .int ln, .int lg])), (b1, .inl (cI, 60, .inl cl))] i_X4_fill_4 tyX4 tyX4_ok nmX4 0 rfl rfl 6 (by decide) m_X4_fill_4 rfl rfl (by decide +kernel) rfl rfl (Nat.le_of_ble_eq_true rfl) dX4_fill_78 rfl ?_
        refine z_aload_n C dX4_fill_81 rfl 0 rfl ?_
        refine z_iload C dX4_fill_82 5 rfl ?_
        refine z_bipush (v := (112 : Int32)) C dX4_fill_84 (by decide) ?_
        refine z_icmp_ne (tgt := 93) C dX4_fill_86 (by decide) (fun c86 => ?_) (fun c86 => ?_)
        · rw [if_neg c86] at hf
          have b86 := c86
          rw [← hu56] at c86
          refine z_iload C dX4_fill_93 5 rfl ?_
          refine z_bipush (v := (99 : Int32)) C dX4_fill_95 (by decide) ?_
          refine z_icmp_ne (tgt := 104) C dX4_fill_97 (by decide) (fun c97 => ?_) (fun c97 => ?_)
          · rw [if_neg c97] at hf
            have b97 := c97
            rw [← hu56] at c97
            refine z_iconst (v := (2 : Int32)) C dX4_fill_104 (by decide) ?_
            refine z_aload_n C dX4_fill_105 rfl 1 rfl ?_
            refine z_iload C dX4_fill_106 4 rfl ?_
            refine z_iconst (v := (2 : Int32)) C dX4_fill_108 (by decide) ?_
            refine z_iadd C dX4_fill_109 ?_
            refine z_cVR (As := [.int (x4_43 + (2 : Int32))]) C (c_X3_at l D cI cO h3 b1 ln lg cl (x4_43 + (2 : Int32)) (by subst hu71 hu56 hu19 hu5; exact hlg)) (cwV 1 C.2.2.2.2.1 gX4_fill_X3_at rfl rfl rfl hdV_X3_at ⟨Nat.le_of_ble_eq_true rfl, Nat.le_of_ble_eq_true rfl⟩) [4, 5] rfl rfl 4 rfl rfl rfl _ rfl (Nat.le_of_ble_eq_true rfl) ⟨Nat.zero_le _, Nat.zero_le _⟩ dX4_fill_110 ?_
            generalize hu110 : (F_X3_at lg cl (x4_43 + (2 : Int32))) = u110 at hf ⊢
            refine z_bipush (v := (48 : Int32)) C dX4_fill_113 (by decide) ?_
            refine z_isub C dX4_fill_115 ?_
            refine z_cVW (As := [.int (2 : Int32), .int (u110 - (48 : Int32))]) C (c_X4_addTop l D cI cO h4 a1 a2 a3 pn_43 (u5 - (48 : Int32)) (u19 - (48 : Int32)) (nw_43 + (u71 - (48 : Int32))) kd_43 bd_43 yr_43 (2 : Int32) (u110 - (48 : Int32))) (cwV 2 C.2.2.2.2.1 gX4_fill_X4_addTop rfl rfl rfl hdV_X4_addTop ⟨Nat.le_of_ble_eq_true rfl, Nat.le_of_ble_eq_true rfl⟩) [(h4, .inr (4, [.ref a1, .ref a2, .ref a3, .int ((F_X4_addTop pn_43 (nw_43 + (u71 - (48 : Int32))) kd_43 bd_43 yr_43 (2 : Int32) (u110 - (48 : Int32))).2.1), .int (u5 - (48 : Int32)), .int (u19 - (48 : Int32)), .int (nw_43 + (u71 - (48 : Int32)))])), (a1, .inl (cI, 9, .inl ((F_X4_addTop pn_43 (nw_43 + (u71 - (48 : Int32))) kd_43 bd_43 yr_43 (2 : Int32) (u110 - (48 : Int32))).2.2.1))), (a2, .inl (cI, 9, .inl ((F_X4_addTop pn_43 (nw_43 + (u71 - (48 : Int32))) kd_43 bd_43 yr_43 (2 : Int32) (u110 - (48 : Int32))).2.2.2.1))), (a3, .inl (cI, 9, .inl ((F_X4_addTop pn_43 (nw_43 + (u71 - (48 : Int32))) kd_43 bd_43 yr_43 (2 : Int32) (u110 - (48 : Int32))).2.2.2.2))), (h3, .inr (3, [.ref b1, .int ln, .int lg])), (b1, .inl (cI, 60, .inl cl))] [0, 1, 2, 3] rfl rfl (Eq.refl [h4, a1, a2, a3]) rfl 0 rfl rfl rfl _ rfl (Nat.le_of_ble_eq_true rfl) ⟨Nat.zero_le _, Nat.zero_le _⟩ dX4_fill_116 ?_
            generalize hu116 : (F_X4_addTop pn_43 (nw_43 + (u71 - (48 : Int32))) kd_43 bd_43 yr_43 (2 : Int32) (u110 - (48 : Int32))) = u116 at hf ⊢
            refine z_pop C dX4_fill_119 rfl ?_
            refine z_iinc (v := (x4_43 + (4 : Int32))) C [(0, .ref h4), (1, .ref h3), (2, .int ti), (3, .int tn), (4, .int (x4_43 + (4 : Int32))), (5, .int u56)] dX4_fill_120 4 rfl (by rfl) (by decide) [1, 2, 3, 4, 0, 5] rfl ?_
            refine z_goto (tgt := 43) C dX4_fill_123 (by decide) ?_
            refine z_ls [(0, .ref h4), (1, .ref h3), (2, .int ti), (3, .int tn), (4, .int (x4_43 + (4 : Int32)))] [0, 1, 2, 3, 4] rfl ?_
            exact ih43 (a + 4) (x4_43 + (4 : Int32)) u116.2.1 (nw_43 + (u71 - (48 : Int32))) u116.2.2.1 u116.2.2.2.1 u116.2.2.2.2 (by subst hu116 hu110 hu71 hu56 hu19 hu5; exact (z_add e4 rfl)) (by subst hu116 hu110 hu71 hu56 hu19 hu5; exact (by have := z_jlt (N := ti + tn) (n := I0 + N0) e4 (by omega) (z_tiN (by rw [hTI, hTN]; exact nI_add _ _) (by omega)) c48; omega)) (by omega) hf
          · rw [if_pos c97] at hf
            have b97 := c97
            rw [← hu56] at c97
            refine z_iconst (v := (1 : Int32)) C dX4_fill_100 (by decide) ?_
            refine z_goto (tgt := 105) C dX4_fill_101 (by decide) ?_
            refine z_aload_n C dX4_fill_105 rfl 1 rfl ?_
            refine z_iload C dX4_fill_106 4 rfl ?_
            refine z_iconst (v := (2 : Int32)) C dX4_fill_108 (by decide) ?_
            refine z_iadd C dX4_fill_109 ?_
            refine z_cVR (As := [.int (x4_43 + (2 : Int32))]) C (c_X3_at l D cI cO h3 b1 ln lg cl (x4_43 + (2 : Int32)) (by subst hu71 hu56 hu19 hu5; exact hlg)) (cwV 1 C.2.2.2.2.1 gX4_fill_X3_at rfl rfl rfl hdV_X3_at ⟨Nat.le_of_ble_eq_true rfl, Nat.le_of_ble_eq_true rfl⟩) [4, 5] rfl rfl 4 rfl rfl rfl _ rfl (Nat.le_of_ble_eq_true rfl) ⟨Nat.zero_le _, Nat.zero_le _⟩ dX4_fill_110 ?_
            generalize hu110 : (F_X3_at lg cl (x4_43 + (2 : Int32))) = u110 at hf ⊢
            refine z_bipush (v := (48 : Int32)) C dX4_fill_113 (by decide) ?_
            refine z_isub C dX4_fill_115 ?_
            refine z_cVW (As := [.int (1 : Int32), .int (u110 - (48 : Int32))]) C (c_X4_addTop l D cI cO h4 a1 a2 a3 pn_43 (u5 - (48 : Int32)) (u19 - (48 : Int32)) (nw_43 + (u71 - (48 : Int32))) kd_43 bd_43 yr_43 (1 : Int32) (u110 - (48 : Int32))) (cwV 2 C.2.2.2.2.1 gX4_fill_X4_addTop rfl rfl rfl hdV_X4_addTop ⟨Nat.le_of_ble_eq_true rfl, Nat.le_of_ble_eq_true rfl⟩) [(h4, .inr (4, [.ref a1, .ref a2, .ref a3, .int ((F_X4_addTop pn_43 (nw_43 + (u71 - (48 : Int32))) kd_43 bd_43 yr_43 (1 : Int32) (u110 - (48 : Int32))).2.1), .int (u5 - (48 : Int32)), .int (u19 - (48 : Int32)), .int (nw_43 + (u71 - (48 : Int32)))])), (a1, .inl (cI, 9, .inl ((F_X4_addTop pn_43 (nw_43 + (u71 - (48 : Int32))) kd_43 bd_43 yr_43 (1 : Int32) (u110 - (48 : Int32))).2.2.1))), (a2, .inl (cI, 9, .inl ((F_X4_addTop pn_43 (nw_43 + (u71 - (48 : Int32))) kd_43 bd_43 yr_43 (1 : Int32) (u110 - (48 : Int32))).2.2.2.1))), (a3, .inl (cI, 9, .inl ((F_X4_addTop pn_43 (nw_43 + (u71 - (48 : Int32))) kd_43 bd_43 yr_43 (1 : Int32) (u110 - (48 : Int32))).2.2.2.2))), (h3, .inr (3, [.ref b1, .int ln, .int lg])), (b1, .inl (cI, 60, .inl cl))] [0, 1, 2, 3] rfl rfl (Eq.refl [h4, a1, a2, a3]) rfl 0 rfl rfl rfl _ rfl (Nat.le_of_ble_eq_true rfl) ⟨Nat.zero_le _, Nat.zero_le _⟩ dX4_fill_116 ?_
            generalize hu116 : (F_X4_addTop pn_43 (nw_43 + (u71 - (48 : Int32))) kd_43 bd_43 yr_43 (1 : Int32) (u110 - (48 : Int32))) = u116 at hf ⊢
            refine z_pop C dX4_fill_119 rfl ?_
            refine z_iinc (v := (x4_43 + (4 : Int32))) C [(0, .ref h4), (1, .ref h3), (2, .int ti), (3, .int tn), (4, .int (x4_43 + (4 : Int32))), (5, .int u56)] dX4_fill_120 4 rfl (by rfl) (by decide) [1, 2, 3, 4, 0, 5] rfl ?_
            refine z_goto (tgt := 43) C dX4_fill_123 (by decide) ?_
            refine z_ls [(0, .ref h4), (1, .ref h3), (2, .int ti), (3, .int tn), (4, .int (x4_43 + (4 : Int32)))] [0, 1, 2, 3, 4] rfl ?_
            exact ih43 (a + 4) (x4_43 + (4 : Int32)) u116.2.1 (nw_43 + (u71 - (48 : Int32))) u116.2.2.1 u116.2.2.2.1 u116.2.2.2.2 (by subst hu116 hu110 hu71 hu56 hu19 hu5; exact (z_add e4 rfl)) (by subst hu116 hu110 hu71 hu56 hu19 hu5; exact (by have := z_jlt (N := ti + tn) (n := I0 + N0) e4 (by omega) (z_tiN (by rw [hTI, hTN]; exact nI_add _ _) (by omega)) c48; omega)) (by omega) hf
        · rw [if_pos c86] at hf
          have b86 := c86
          rw [← hu56] at c86
          refine z_iconst (v := (0 : Int32)) C dX4_fill_89 (by decide) ?_
          refine z_goto (tgt := 105) C dX4_fill_90 (by decide) ?_
          refine z_aload_n C dX4_fill_105 rfl 1 rfl ?_
          refine z_iload C dX4_fill_106 4 rfl ?_
          refine z_iconst (v := (2 : Int32)) C dX4_fill_108 (by decide) ?_
          refine z_iadd C dX4_fill_109 ?_
          refine z_cVR (As := [.int (x4_43 + (2 : Int32))]) C (c_X3_at l D cI cO h3 b1 ln lg cl (x4_43 + (2 : Int32)) (by subst hu71 hu56 hu19 hu5; exact hlg)) (cwV 1 C.2.2.2.2.1 gX4_fill_X3_at rfl rfl rfl hdV_X3_at ⟨Nat.le_of_ble_eq_true rfl, Nat.le_of_ble_eq_true rfl⟩) [4, 5] rfl rfl 4 rfl rfl rfl _ rfl (Nat.le_of_ble_eq_true rfl) ⟨Nat.zero_le _, Nat.zero_le _⟩ dX4_fill_110 ?_
          generalize hu110 : (F_X3_at lg cl (x4_43 + (2 : Int32))) = u110 at hf ⊢
          refine z_bipush (v := (48 : Int32)) C dX4_fill_113 (by decide) ?_
          refine z_isub C dX4_fill_115 ?_
          refine z_cVW (As := [.int (0 : Int32), .int (u110 - (48 : Int32))]) C (c_X4_addTop l D cI cO h4 a1 a2 a3 pn_43 (u5 - (48 : Int32)) (u19 - (48 : Int32)) (nw_43 + (u71 - (48 : Int32))) kd_43 bd_43 yr_43 (0 : Int32) (u110 - (48 : Int32))) (cwV 2 C.2.2.2.2.1 gX4_fill_X4_addTop rfl rfl rfl hdV_X4_addTop ⟨Nat.le_of_ble_eq_true rfl, Nat.le_of_ble_eq_true rfl⟩) [(h4, .inr (4, [.ref a1, .ref a2, .ref a3, .int ((F_X4_addTop pn_43 (nw_43 + (u71 - (48 : Int32))) kd_43 bd_43 yr_43 (0 : Int32) (u110 - (48 : Int32))).2.1), .int (u5 - (48 : Int32)), .int (u19 - (48 : Int32)), .int (nw_43 + (u71 - (48 : Int32)))])), (a1, .inl (cI, 9, .inl ((F_X4_addTop pn_43 (nw_43 + (u71 - (48 : Int32))) kd_43 bd_43 yr_43 (0 : Int32) (u110 - (48 : Int32))).2.2.1))), (a2, .inl (cI, 9, .inl ((F_X4_addTop pn_43 (nw_43 + (u71 - (48 : Int32))) kd_43 bd_43 yr_43 (0 : Int32) (u110 - (48 : Int32))).2.2.2.1))), (a3, .inl (cI, 9, .inl ((F_X4_addTop pn_43 (nw_43 + (u71 - (48 : Int32))) kd_43 bd_43 yr_43 (0 : Int32) (u110 - (48 : Int32))).2.2.2.2))), (h3, .inr (3, [.ref b1, .int ln, .int lg])), (b1, .inl (cI, 60, .inl cl))] [0, 1, 2, 3] rfl rfl (Eq.refl [h4, a1, a2, a3]) rfl 0 rfl rfl rfl _ rfl (Nat.le_of_ble_eq_true rfl) ⟨Nat.zero_le _, Nat.zero_le _⟩ dX4_fill_116 ?_
          generalize hu116 : (F_X4_addTop pn_43 (nw_43 + (u71 - (48 : Int32))) kd_43 bd_43 yr_43 (0 : Int32) (u110 - (48 : Int32))) = u116 at hf ⊢
          refine z_pop C dX4_fill_119 rfl ?_
          refine z_iinc (v := (x4_43 + (4 : Int32))) C [(0, .ref h4), (1, .ref h3), (2, .int ti), (3, .int tn), (4, .int (x4_43 + (4 : Int32))), (5, .int u56)] dX4_fill_120 4 rfl (by rfl) (by decide) [1, 2, 3, 4, 0, 5] rfl ?_
          refine z_goto (tgt := 43) C dX4_fill_123 (by decide) ?_
          refine z_ls [(0, .ref h4), (1, .ref h3), (2, .int ti), (3, .int tn), (4, .int (x4_43 + (4 : Int32)))] [0, 1, 2, 3, 4] rfl ?_
          exact ih43 (a + 4) (x4_43 + (4 : Int32)) u116.2.1 (nw_43 + (u71 - (48 : Int32))) u116.2.2.1 u116.2.2.2.1 u116.2.2.2.2 (by subst hu116 hu110 hu71 hu56 hu19 hu5; exact (z_add e4 rfl)) (by subst hu116 hu110 hu71 hu56 hu19 hu5; exact (by have := z_jlt (N := ti + tn) (n := I0 + N0) e4 (by omega) (z_tiN (by rw [hTI, hTN]; exact nI_add _ _) (by omega)) c48; omega)) (by omega) hf
  exact L43 64 (I0 + 3) (ti + (3 : Int32)) (0 : Int32) (0 : Int32) kd bd yr (by subst hu19 hu5; exact (z_add hTI rfl)) (by omega) (by omega) hf
