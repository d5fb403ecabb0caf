-- X0_canDo
theorem i_X0_canDo_0 : ∀ w ∈ u_ws RX0 TX0 3, w ∈ wsX0_canDo := by decide +kernel
theorem m_X0_canDo_1 : Cond.fieldLink RX0 12 "WishPins$Century" "then" "LWishPins$Well;" ∈ wsX0_canDo := List.mem_of_getElem? (i := 1) rfl
theorem i_X0_canDo_4 : ∀ w ∈ u_ws RX4 TX4 7, w ∈ wsX0_canDo := by decide +kernel
theorem m_X0_canDo_3 : Cond.fieldLink RX0 46 "WishPins$Well" "pins" "I" ∈ wsX0_canDo := List.mem_of_getElem? (i := 3) rfl
theorem m_X0_canDo_4 : Cond.fieldLink RX0 26 "WishPins$Century" "likeBelow" "I" ∈ wsX0_canDo := List.mem_of_getElem? (i := 4) rfl
theorem m_X0_canDo_2 : Cond.fieldLink RX0 43 "WishPins$Well" "now" "I" ∈ wsX0_canDo := List.mem_of_getElem? (i := 2) rfl
def F_X0_canDo (lb : Int32) (pnt : Int32) (slt : Int32) (drt : Int32) (nwt : Int32) (kdt : Nat → Int32) (bdt : Nat → Int32) (yrt : Nat → Int32) (a : Int32) (b : Int32) : Int32 × Int32 × Int32 × Int32 × (Nat → Int32) × (Nat → Int32) × (Nat → Int32) :=
  (if b = (4 : Int32) then ((F_X4_dropTop pnt).1, lb, (F_X4_dropTop pnt).2, nwt, kdt, bdt, yrt) else (if b = (3 : Int32) then ((1 : Int32), lb, pnt, (nwt + a), kdt, bdt, yrt) else (if (F_X4_addTop pnt nwt kdt bdt yrt b a).1 = 0 then ((0 : Int32), lb, (F_X4_addTop pnt nwt kdt bdt yrt b a).2.1, nwt, (F_X4_addTop pnt nwt kdt bdt yrt b a).2.2.1, (F_X4_addTop pnt nwt kdt bdt yrt b a).2.2.2.1, (F_X4_addTop pnt nwt kdt bdt yrt b a).2.2.2.2) else (if (F_X4_wishAt (F_X4_addTop pnt nwt kdt bdt yrt b a).2.1 slt drt (F_X4_addTop pnt nwt kdt bdt yrt b a).2.2.1 (F_X4_addTop pnt nwt kdt bdt yrt b a).2.2.2.1 (F_X4_addTop pnt nwt kdt bdt yrt b a).2.2.2.2 ((F_X4_addTop pnt nwt kdt bdt yrt b a).2.1 - (1 : Int32))) = (F_X4_wishAt pnt slt drt kdt bdt yrt (pnt - (1 : Int32))) then ((1 : Int32), (lb + (1 : Int32)), (F_X4_addTop pnt nwt kdt bdt yrt b a).2.1, nwt, (F_X4_addTop pnt nwt kdt bdt yrt b a).2.2.1, (F_X4_addTop pnt nwt kdt bdt yrt b a).2.2.2.1, (F_X4_addTop pnt nwt kdt bdt yrt b a).2.2.2.2) else ((1 : Int32), lb, (F_X4_addTop pnt nwt kdt bdt yrt b a).2.1, nwt, (F_X4_addTop pnt nwt kdt bdt yrt b a).2.2.1, (F_X4_addTop pnt nwt kdt bdt yrt b a).2.2.2.1, (F_X4_addTop pnt nwt kdt bdt yrt b a).2.2.2.2)))))
set_option maxHeartbeats 4000000 in
set_option maxRecDepth 100000 in
theorem c_X0_canDo (l : Launch) (D : va_G) (cI cO : ClassId) (h0 : Nat) (fw : Int32) (lb : Int32) (h4t : Nat) (a1t : Nat) (a2t : Nat) (a3t : Nat) (pnt : Int32) (slt : Int32) (drt : Int32) (nwt : Int32) (kdt : Nat → Int32) (bdt : Nat → Int32) (yrt : Nat → Int32) (a : Int32) (b : Int32) : zW l yX0_canDo wsX0_canDo ({ frames := 2, cells := 0, slots := 0, locals := 44 } : Room) D cI cO [.ref h0, .int a, .int b] [(h0, .inr (0, [.ref h4t, .int fw, .int lb])), (h4t, .inr (4, [.ref a1t, .ref a2t, .ref a3t, .int pnt, .int slt, .int drt, .int nwt])), (a1t, .inl (cI, 9, .inl kdt)), (a2t, .inl (cI, 9, .inl bdt)), (a3t, .inl (cI, 9, .inl yrt))] [(h0, .inr (0, [.ref h4t, .int fw, .int ((F_X0_canDo lb pnt slt drt nwt kdt bdt yrt a b).2.1)])), (h4t, .inr (4, [.ref a1t, .ref a2t, .ref a3t, .int ((F_X0_canDo lb pnt slt drt nwt kdt bdt yrt a b).2.2.1), .int slt, .int drt, .int ((F_X0_canDo lb pnt slt drt nwt kdt bdt yrt a b).2.2.2.1)])), (a1t, .inl (cI, 9, .inl ((F_X0_canDo lb pnt slt drt nwt kdt bdt yrt a b).2.2.2.2.1))), (a2t, .inl (cI, 9, .inl ((F_X0_canDo lb pnt slt drt nwt kdt bdt yrt a b).2.2.2.2.2.1))), (a3t, .inl (cI, 9, .inl ((F_X0_canDo lb pnt slt drt nwt kdt bdt yrt a b).2.2.2.2.2.2)))] (some (.int ((F_X0_canDo lb pnt slt drt nwt kdt bdt yrt a b).1))) := by
  refine zW_of (nL := 4) (cc := cX0_canDo) (ret := some .boolean) (lv := [(0, .ref h0), (1, .int a), (2, .int b)]) (by decide +kernel) rfl (Nat.le_of_ble_eq_true rfl) rfl (fun p e s m args below meth c C hr hlk => ?_)
  have hf := F_X0_canDo.eq_1 lb pnt slt drt nwt kdt bdt yrt a b
  refine z_iload_n C dX0_canDo_0 rfl 2 rfl ?_
  refine z_iconst (v := (4 : Int32)) C dX0_canDo_1 (by decide) ?_
  refine z_icmp_ne (tgt := 13) C dX0_canDo_2 (by decide) (fun c2 => ?_) (fun c2 => ?_)
  · rw [if_neg c2] at hf
    refine z_iload_n C dX0_canDo_13 rfl 2 rfl ?_
    refine z_iconst (v := (3 : Int32)) C dX0_canDo_14 (by decide) ?_
    refine z_icmp_ne (tgt := 33) C dX0_canDo_15 (by decide) (fun c15 => ?_) (fun c15 => ?_)
    · rw [if_neg c15] at hf
      refine z_aload_n C dX0_canDo_33 rfl 0 rfl ?_
      refine z_get (T := TX0) (v := .ref h4t) C i_X0_canDo_0 0 rfl rfl 0 (by decide) m_X0_canDo_1 rfl rfl dX0_canDo_34 ?_
      refine z_aload_n C dX0_canDo_37 rfl 0 rfl ?_
      refine z_get (T := TX0) (v := .ref h4t) C i_X0_canDo_0 0 rfl rfl 0 (by decide) m_X0_canDo_1 rfl rfl dX0_canDo_38 ?_
      refine z_get (T := TX4) (v := .int pnt) C i_X0_canDo_4 1 rfl rfl 3 (by decide) m_X0_canDo_3 rfl rfl dX0_canDo_41 ?_
      refine z_iconst (v := (1 : Int32)) C dX0_canDo_44 (by decide) ?_
      refine z_isub C dX0_canDo_45 ?_
      refine z_cVR (As := [.int (pnt - (1 : Int32))]) C (c_X4_wishAt l D cI cO h4t a1t a2t a3t pnt slt drt nwt kdt bdt yrt (pnt - (1 : Int32))) (cwV 1 C.2.2.2.2.1 gX0_canDo_X4_wishAt rfl rfl rfl hdV_X4_wishAt ⟨Nat.le_of_ble_eq_true rfl, Nat.le_of_ble_eq_true rfl⟩) [1, 2, 3, 4] rfl rfl 1 rfl rfl rfl _ rfl (Nat.le_of_ble_eq_true rfl) ⟨Nat.zero_le _, Nat.zero_le _⟩ dX0_canDo_46 ?_
      generalize hu46 : (F_X4_wishAt pnt slt drt kdt bdt yrt (pnt - (1 : Int32))) = u46 at hf ⊢
      refine z_istore_n C [(0, .ref h0), (1, .int a), (2, .int b), (3, .int u46)] dX0_canDo_49 rfl (by decide) [1, 2, 3, 0] rfl ?_
      refine z_aload_n C dX0_canDo_50 rfl 0 rfl ?_
      refine z_get (T := TX0) (v := .ref h4t) C i_X0_canDo_0 0 rfl rfl 0 (by decide) m_X0_canDo_1 rfl rfl dX0_canDo_51 ?_
      refine z_iload_n C dX0_canDo_54 rfl 2 rfl ?_
      refine z_iload_n C dX0_canDo_55 rfl 1 rfl ?_
      refine z_cVW (As := [.int b, .int a]) C (c_X4_addTop l D cI cO h4t a1t a2t a3t pnt slt drt nwt kdt bdt yrt b a) (cwV 2 C.2.2.2.2.1 gX0_canDo_X4_addTop rfl rfl rfl hdV_X4_addTop ⟨Nat.le_of_ble_eq_true rfl, Nat.le_of_ble_eq_true rfl⟩) [(h0, .inr (0, [.ref h4t, .int fw, .int lb])), (h4t, .inr (4, [.ref a1t, .ref a2t, .ref a3t, .int ((F_X4_addTop pnt nwt kdt bdt yrt b a).2.1), .int slt, .int drt, .int nwt])), (a1t, .inl (cI, 9, .inl ((F_X4_addTop pnt nwt kdt bdt yrt b a).2.2.1))), (a2t, .inl (cI, 9, .inl ((F_X4_addTop pnt nwt kdt bdt yrt b a).2.2.2.1))), (a3t, .inl (cI, 9, .inl ((F_X4_addTop pnt nwt kdt bdt yrt b a).2.2.2.2)))] [1, 2, 3, 4] rfl rfl (Eq.refl [h4t, a1t, a2t, a3t]) rfl 1 rfl rfl rfl _ rfl (Nat.le_of_ble_eq_true rfl) ⟨Nat.zero_le _, Nat.zero_le _⟩ dX0_canDo_56 ?_
      generalize hu56 : (F_X4_addTop pnt nwt kdt bdt yrt b a) = u56 at hf ⊢
      refine z_if_ne (tgt := 64) C dX0_canDo_59 (by decide) (fun c59 => ?_) (fun c59 => ?_)
      · rw [if_neg c59] at hf
        have b59 := c59
        rw [← hu56] at c59
        refine z_aload_n C dX0_canDo_64 rfl 0 rfl ?_
        refine z_get (T := TX0) (v := .ref h4t) C i_X0_canDo_0 0 rfl rfl 0 (by decide) m_X0_canDo_1 rfl rfl dX0_canDo_65 ?_
        refine z_aload_n C dX0_canDo_68 rfl 0 rfl ?_
        refine z_get (T := TX0) (v := .ref h4t) C i_X0_canDo_0 0 rfl rfl 0 (by decide) m_X0_canDo_1 rfl rfl dX0_canDo_69 ?_
        refine z_get (T := TX4) (v := .int u56.2.1) C i_X0_canDo_4 1 rfl rfl 3 (by decide) m_X0_canDo_3 rfl rfl dX0_canDo_72 ?_
        refine z_iconst (v := (1 : Int32)) C dX0_canDo_75 (by decide) ?_
        refine z_isub C dX0_canDo_76 ?_
        refine z_cVR (As := [.int (u56.2.1 - (1 : Int32))]) C (c_X4_wishAt l D cI cO h4t a1t a2t a3t u56.2.1 slt drt nwt u56.2.2.1 u56.2.2.2.1 u56.2.2.2.2 (u56.2.1 - (1 : Int32))) (cwV 1 C.2.2.2.2.1 gX0_canDo_X4_wishAt rfl rfl rfl hdV_X4_wishAt ⟨Nat.le_of_ble_eq_true rfl, Nat.le_of_ble_eq_true rfl⟩) [1, 2, 3, 4] rfl rfl 1 rfl rfl rfl _ rfl (Nat.le_of_ble_eq_true rfl) ⟨Nat.zero_le _, Nat.zero_le _⟩ dX0_canDo_77 ?_
        generalize hu77 : (F_X4_wishAt u56.2.1 slt drt u56.2.2.1 u56.2.2.2.1 u56.2.2.2.2 (u56.2.1 - (1 : Int32))) = u77 at hf ⊢
        refine z_iload_n C dX0_canDo_80 rfl 3 rfl ?_
        refine z_icmp_ne (tgt := 94) C dX0_canDo_81 (by decide) (fun c81 => ?_) (fun c81 => ?_)
        · rw [if_neg c81] at hf
          have b81 := c81
          rw [← hu77, ← hu46] at c81
          refine z_iconst (v := (1 : Int32)) C dX0_canDo_94 (by decide) ?_
          exact z_zretW C hr hlk rfl (by rw [hf]) (by rw [hf]) dX0_canDo_95
        · rw [if_pos c81] at hf
          have b81 := c81
          rw [← hu77, ← hu46] at c81
          refine z_aload_n C dX0_canDo_84 rfl 0 rfl ?_
          refine z_dup C dX0_canDo_85 rfl ?_
          refine z_get (T := TX0) (v := .int lb) C i_X0_canDo_0 0 rfl rfl 2 (by decide) m_X0_canDo_4 rfl rfl dX0_canDo_86 ?_
          refine z_iconst (v := (1 : Int32)) C dX0_canDo_89 (by decide) ?_
          refine z_iadd C dX0_canDo_90 ?_
          refine z_put (T := TX0) (ty := .int) C [(h0, .inr (0, [.ref h4t, .int fw, .int (lb + (1 : Int32))])), (h4t, .inr (4, [.ref a1t, .ref a2t, .ref a3t, .int u56.2.1, .int slt, .int drt, .int nwt])), (a1t, .inl (cI, 9, .inl u56.2.2.1)), (a2t, .inl (cI, 9, .inl u56.2.2.2.1)), (a3t, .inl (cI, 9, .inl u56.2.2.2.2))] i_X0_canDo_0 tyX0 tyX0_ok nmX0 0 rfl rfl 2 (by decide) m_X0_canDo_4 rfl rfl (by decide +kernel) rfl rfl (Nat.le_of_ble_eq_true rfl) dX0_canDo_91 rfl ?_
          refine z_iconst (v := (1 : Int32)) C dX0_canDo_94 (by decide) ?_
          exact z_zretW C hr hlk rfl (by rw [hf]) (by rw [hf]) dX0_canDo_95
      · rw [if_pos c59] at hf
        have b59 := c59
        rw [← hu56] at c59
        refine z_iconst (v := (0 : Int32)) C dX0_canDo_62 (by decide) ?_
        exact z_zretW C hr hlk rfl (by rw [hf]) (by rw [hf]) dX0_canDo_63
    · rw [if_pos c15] at hf
      refine z_aload_n C dX0_canDo_18 rfl 0 rfl ?_
      refine z_get (T := TX0) (v := .ref h4t) C i_X0_canDo_0 0 rfl rfl 0 (by decide) m_X0_canDo_1 rfl rfl dX0_canDo_19 ?_
      refine z_dup C dX0_canDo_22 rfl ?_
      refine z_get (T := TX4) (v := .int nwt) C i_X0_canDo_4 1 rfl rfl 6 (by decide) m_X0_canDo_2 rfl rfl dX0_canDo_23 ?_
      refine z_iload_n C dX0_canDo_26 rfl 1 rfl ?_
      refine z_iadd C dX0_canDo_27 ?_
      refine z_put (T := TX4) (ty := .int) C [(h0, .inr (0, [.ref h4t, .int fw, .int lb])), (h4t, .inr (4, [.ref a1t, .ref a2t, .ref a3t, .int pnt, .int slt, .int drt, .int (nwt + a)])), (a1t, .inl (cI, 9, .inl kdt)), (a2t, .inl (cI, 9, .inl bdt)), (a3t, .inl (cI, 9, .inl yrt))] i_X0_canDo_4 tyX4 tyX4_ok nmX4 1 rfl rfl 6 (by decide) m_X0_canDo_2 rfl rfl (by decide +kernel) rfl rfl (Nat.le_of_ble_eq_true rfl) dX0_canDo_28 rfl ?_
      refine z_iconst (v := (1 : Int32)) C dX0_canDo_31 (by decide) ?_
      exact z_zretW C hr hlk rfl (by rw [hf]) (by rw [hf]) dX0_canDo_32
  · rw [if_pos c2] at hf
    refine z_aload_n C dX0_canDo_5 rfl 0 rfl ?_
    refine z_get (T := TX0) (v := .ref h4t) C i_X0_canDo_0 0 rfl rfl 0 (by decide) m_X0_canDo_1 rfl rfl dX0_canDo_6 ?_
    refine z_cVW (As := []) C (c_X4_dropTop l D cI cO h4t a1t a2t a3t pnt slt drt nwt) (cwV 0 C.2.2.2.2.1 gX0_canDo_X4_dropTop rfl rfl rfl hdV_X4_dropTop ⟨Nat.le_of_ble_eq_true rfl, Nat.le_of_ble_eq_true rfl⟩) [(h0, .inr (0, [.ref h4t, .int fw, .int lb])), (h4t, .inr (4, [.ref a1t, .ref a2t, .ref a3t, .int ((F_X4_dropTop pnt).2), .int slt, .int drt, .int nwt])), (a1t, .inl (cI, 9, .inl kdt)), (a2t, .inl (cI, 9, .inl bdt)), (a3t, .inl (cI, 9, .inl yrt))] [1] rfl rfl (Eq.refl [h4t]) rfl 1 rfl rfl rfl _ rfl (Nat.le_of_ble_eq_true rfl) ⟨Nat.zero_le _, Nat.zero_le _⟩ dX0_canDo_9 ?_
    generalize hu9 : (F_X4_dropTop pnt) = u9 at hf ⊢
    exact z_zretW C hr hlk (by subst hu9; exact (z_bool (dropTop_b _))) (by rw [hf]) (by rw [hf]) dX0_canDo_12
-- X0_allWishes
theorem i_X0_allWishes_0 : ∀ w ∈ u_ws RX0 TX0 3, w ∈ wsX0_allWishes := by decide +kernel
theorem m_X0_allWishes_1 : Cond.fieldLink RX0 12 "WishPins$Century" "then" "LWishPins$Well;" ∈ wsX0_allWishes := List.mem_of_getElem? (i := 1) rfl
theorem i_X0_allWishes_4 : ∀ w ∈ u_ws RX4 TX4 7, w ∈ wsX0_allWishes := by decide +kernel
theorem m_X0_allWishes_2 : Cond.fieldLink RX0 46 "WishPins$Well" "pins" "I" ∈ wsX0_allWishes := List.mem_of_getElem? (i := 2) rfl
def F_X0_allWishes_k4 (x1_4 : Int32) (x2_4 : Int32) : Int32 :=
  x1_4
def F_X0_allWishes_l4 (pnt : Int32) (slt : Int32) (drt : Int32) (kdt : Nat → Int32) (bdt : Nat → Int32) (yrt : Nat → Int32) (K_ : Int32 → Int32 → Int32) : Nat → Int32 → Int32 → Int32
  | 0, x1_4, x2_4 => K_ x1_4 x2_4
  | d4 + 1, x1_4, x2_4 => (if pnt ≤ x2_4 then (K_ x1_4 x2_4) else (F_X0_allWishes_l4 pnt slt drt kdt bdt yrt K_ d4 (x1_4 ||| ((1 : Int32) <<< ((F_X4_wishAt pnt slt drt kdt bdt yrt x2_4) &&& 31))) (x2_4 + (1 : Int32))))
def F_X0_allWishes (pnt : Int32) (slt : Int32) (drt : Int32) (kdt : Nat → Int32) (bdt : Nat → Int32) (yrt : Nat → Int32) : Int32 :=
  (F_X0_allWishes_l4 pnt slt drt kdt bdt yrt F_X0_allWishes_k4 10 (0 : Int32) (0 : Int32))
set_option maxHeartbeats 4000000 in
set_option maxRecDepth 100000 in
theorem c_X0_allWishes (l : Launch) (D : va_G) (cI cO : ClassId) (h0 : Nat) (fw : Int32) (lb : Int32) (h4t : Nat) (a1t : Nat) (a2t : Nat) (a3t : Nat) (pnt : Int32) (slt : Int32) (drt : Int32) (nwt : Int32) (kdt : Nat → Int32) (bdt : Nat → Int32) (yrt : Nat → Int32) (np : Nat) (hpt : pnt = nI np) (hnp : np ≤ 9) : zR l yX0_allWishes wsX0_allWishes ({ frames := 2, cells := 0, slots := 0, locals := 44 } : Room) D cI cO [.ref h0] [(h0, .inr (0, [.ref h4t, .int fw, .int lb])), (h4t, .inr (4, [.ref a1t, .ref a2t, .ref a3t, .int pnt, .int slt, .int drt, .int nwt])), (a1t, .inl (cI, 9, .inl kdt)), (a2t, .inl (cI, 9, .inl bdt)), (a3t, .inl (cI, 9, .inl yrt))] (some (.int (F_X0_allWishes pnt slt drt kdt bdt yrt))) := by
  refine zR_of (nL := 3) (cc := cX0_allWishes) (ret := some .int) (lv := [(0, .ref h0)]) (by decide +kernel) rfl (Nat.le_of_ble_eq_true rfl) rfl (fun p e s m args below meth c C hr hlk => ?_)
  have hf := F_X0_allWishes.eq_1 pnt slt drt kdt bdt yrt
  refine z_iconst (v := (0 : Int32)) C dX0_allWishes_0 (by decide) ?_
  refine z_istore_n C [(0, .ref h0), (1, .int (0 : Int32))] dX0_allWishes_1 rfl (by decide) [1, 0] rfl ?_
  refine z_iconst (v := (0 : Int32)) C dX0_allWishes_2 (by decide) ?_
  refine z_istore_n C [(0, .ref h0), (1, .int (0 : Int32)), (2, .int (0 : Int32))] dX0_allWishes_3 rfl (by decide) [1, 2, 0] rfl ?_
  have X4 : ∀ (x1_4 : Int32) (x2_4 : Int32), F_X0_allWishes pnt slt drt kdt bdt yrt = F_X0_allWishes_k4 x1_4 x2_4 → zG p l e ({ frames := 2, cells := 0, slots := 0, locals := 44 } : Room) s m args below meth c D (fun _ => True) (zXr s) 3 0 0 (MQ below (zQr (some (.int (F_X0_allWishes pnt slt drt kdt bdt yrt)))) args s 0 0 (fun _ => False)) 34 [(0, .ref h0), (1, .int x1_4), (2, .int x2_4)] [] [(h0, .inr (0, [.ref h4t, .int fw, .int lb])), (h4t, .inr (4, [.ref a1t, .ref a2t, .ref a3t, .int pnt, .int slt, .int drt, .int nwt])), (a1t, .inl (cI, 9, .inl kdt)), (a2t, .inl (cI, 9, .inl bdt)), (a3t, .inl (cI, 9, .inl yrt))] := by
    intro x1_4 x2_4 hf
    rw [F_X0_allWishes_k4] at hf
    skip
    refine z_iload_n C dX0_allWishes_34 rfl 1 rfl ?_
    exact z_iretR C hr hlk (by rw [hf]) dX0_allWishes_35
  have L4 : ∀ (d4 : Nat) (j : Nat) (x1_4 : Int32) (x2_4 : Int32) (e2 : x2_4 = nI j) (hj : j ≤ np) (hd : np < j + d4), F_X0_allWishes pnt slt drt kdt bdt yrt = F_X0_allWishes_l4 pnt slt drt kdt bdt yrt F_X0_allWishes_k4 d4 x1_4 x2_4 → zG p l e ({ frames := 2, cells := 0, slots := 0, locals := 44 } : Room) s m args below meth c D (fun _ => True) (zXr s) 3 0 0 (MQ below (zQr (some (.int (F_X0_allWishes pnt slt drt kdt bdt yrt)))) args s 0 0 (fun _ => False)) 4 [(0, .ref h0), (1, .int x1_4), (2, .int x2_4)] [] [(h0, .inr (0, [.ref h4t, .int fw, .int lb])), (h4t, .inr (4, [.ref a1t, .ref a2t, .ref a3t, .int pnt, .int slt, .int drt, .int nwt])), (a1t, .inl (cI, 9, .inl kdt)), (a2t, .inl (cI, 9, .inl bdt)), (a3t, .inl (cI, 9, .inl yrt))] := by
    intro d4
    induction d4 with
    | zero =>
      intro j x1_4 x2_4 e2 hj hd hf
      exfalso; omega
    | succ d4 ih4 =>
      intro j x1_4 x2_4 e2 hj hd hf
      rw [F_X0_allWishes_l4] at hf
      skip
      refine z_iload_n C dX0_allWishes_4 rfl 2 rfl ?_
      refine z_aload_n C dX0_allWishes_5 rfl 0 rfl ?_
      refine z_get (T := TX0) (v := .ref h4t) C i_X0_allWishes_0 0 rfl rfl 0 (by decide) m_X0_allWishes_1 rfl rfl dX0_allWishes_6 ?_
      refine z_get (T := TX4) (v := .int pnt) C i_X0_allWishes_4 1 rfl rfl 3 (by decide) m_X0_allWishes_2 rfl rfl dX0_allWishes_9 ?_
      refine z_icmp_ge (tgt := 34) C dX0_allWishes_12 (by decide) (fun c12 => ?_) (fun c12 => ?_)
      · rw [if_pos c12] at hf
        exact X4 x1_4 x2_4  hf
      · rw [if_neg c12] at hf
        refine z_iload_n C dX0_allWishes_15 rfl 1 rfl ?_
        refine z_iconst (v := (1 : Int32)) C dX0_allWishes_16 (by decide) ?_
        refine z_aload_n C dX0_allWishes_17 rfl 0 rfl ?_
        refine z_get (T := TX0) (v := .ref h4t) C i_X0_allWishes_0 0 rfl rfl 0 (by decide) m_X0_allWishes_1 rfl rfl dX0_allWishes_18 ?_
        refine z_iload_n C dX0_allWishes_21 rfl 2 rfl ?_
        refine z_cVR (As := [.int x2_4]) C (c_X4_wishAt l D cI cO h4t a1t a2t a3t pnt slt drt nwt kdt bdt yrt x2_4) (cwV 1 C.2.2.2.2.1 gX0_allWishes_X4_wishAt rfl rfl rfl hdV_X4_wishAt ⟨Nat.le_of_ble_eq_true rfl, Nat.le_of_ble_eq_true rfl⟩) [1, 2, 3, 4] rfl rfl 1 rfl rfl rfl _ rfl (Nat.le_of_ble_eq_true rfl) ⟨Nat.zero_le _, Nat.zero_le _⟩ dX0_allWishes_22 ?_
        generalize hu22 : (F_X4_wishAt pnt slt drt kdt bdt yrt x2_4) = u22 at hf ⊢
        refine z_ishl C dX0_allWishes_25 ?_
        refine z_ior C dX0_allWishes_26 ?_
        refine z_istore_n C [(0, .ref h0), (1, .int (x1_4 ||| ((1 : Int32) <<< (u22 &&& 31)))), (2, .int x2_4)] dX0_allWishes_27 rfl (by decide) [1, 0, 2] rfl ?_
        refine z_iinc (v := (x2_4 + (1 : Int32))) C [(0, .ref h0), (1, .int (x1_4 ||| ((1 : Int32) <<< (u22 &&& 31)))), (2, .int (x2_4 + (1 : Int32)))] dX0_allWishes_28 2 rfl (by rfl) (by decide) [1, 2, 0] rfl ?_
        refine z_goto (tgt := 4) C dX0_allWishes_31 (by decide) ?_
        exact ih4 (j + 1) (x1_4 ||| ((1 : Int32) <<< (u22 &&& 31))) (x2_4 + (1 : Int32)) (by subst hu22; exact (by rw [e2]; exact nI_1 j)) (by subst hu22; exact (by have := z_jlt e2 (by omega) (z_tiN hpt (by omega)) c12; omega)) (by omega) hf
  exact L4 10 0 (0 : Int32) (0 : Int32) nI_0.symm (Nat.zero_le _) (by omega) hf
-- X0_told
theorem i_X0_told_0 : ∀ w ∈ u_ws RX0 TX0 3, w ∈ wsX0_told := by decide +kernel
theorem m_X0_told_1 : Cond.fieldLink RX0 22 "WishPins$Century" "firstWrong" "I" ∈ wsX0_told := List.mem_of_getElem? (i := 1) rfl
theorem m_X0_told_2 : Cond.fieldLink RX0 12 "WishPins$Century" "then" "LWishPins$Well;" ∈ wsX0_told := List.mem_of_getElem? (i := 2) rfl
theorem i_X0_told_4 : ∀ w ∈ u_ws RX4 TX4 7, w ∈ wsX0_told := by decide +kernel
theorem m_X0_told_3 : Cond.fieldLink RX0 46 "WishPins$Well" "pins" "I" ∈ wsX0_told := List.mem_of_getElem? (i := 3) rfl
theorem m_X0_told_4 : Cond.fieldLink RX0 26 "WishPins$Century" "likeBelow" "I" ∈ wsX0_told := List.mem_of_getElem? (i := 4) rfl
theorem m_X0_told_5 : Cond.fieldLink RX0 43 "WishPins$Well" "now" "I" ∈ wsX0_told := List.mem_of_getElem? (i := 5) rfl
def F_X0_told (fw : Int32) (lb : Int32) (pnt : Int32) (slt : Int32) (drt : Int32) (nwt : Int32) (kdt : Nat → Int32) (bdt : Nat → Int32) (yrt : Nat → Int32) (w : Int32) : Int32 :=
  (if w = (1 : Int32) then fw else (if fw = (-9 : Int32) then (if w = (0 : Int32) then pnt else (if w = (1 : Int32) then (F_X4_wishAt pnt slt drt kdt bdt yrt (w - (10 : Int32))) else (if w = (2 : Int32) then lb else (if w = (3 : Int32) then nwt else (if w = (4 : Int32) then (F_X0_allWishes pnt slt drt kdt bdt yrt) else (F_X4_wishAt pnt slt drt kdt bdt yrt (w - (10 : Int32)))))))) else ((-100 : Int32) - fw)))
set_option maxHeartbeats 4000000 in
set_option maxRecDepth 100000 in
theorem c_X0_told (l : Launch) (D : va_G) (cI cO : ClassId) (h0 : Nat) (fw : Int32) (lb : Int32) (h4t : Nat) (a1t : Nat) (a2t : Nat) (a3t : Nat) (pnt : Int32) (slt : Int32) (drt : Int32) (nwt : Int32) (kdt : Nat → Int32) (bdt : Nat → Int32) (yrt : Nat → Int32) (w : Int32) (np : Nat) (hpt : pnt = nI np) (hnp : np ≤ 9) : zR l yX0_told wsX0_told ({ frames := 3, cells := 0, slots := 0, locals := 66 } : Room) D cI cO [.ref h0, .int w] [(h0, .inr (0, [.ref h4t, .int fw, .int lb])), (h4t, .inr (4, [.ref a1t, .ref a2t, .ref a3t, .int pnt, .int slt, .int drt, .int nwt])), (a1t, .inl (cI, 9, .inl kdt)), (a2t, .inl (cI, 9, .inl bdt)), (a3t, .inl (cI, 9, .inl yrt))] (some (.int (F_X0_told fw lb pnt slt drt nwt kdt bdt yrt w))) := by
  refine zR_of (nL := 2) (cc := cX0_told) (ret := some .int) (lv := [(0, .ref h0), (1, .int w)]) (by decide +kernel) rfl (Nat.le_of_ble_eq_true rfl) rfl (fun p e s m args below meth c C hr hlk => ?_)
  have hf := F_X0_told.eq_1 fw lb pnt slt drt nwt kdt bdt yrt w
  refine z_iload_n C dX0_told_0 rfl 1 rfl ?_
  refine z_iconst (v := (1 : Int32)) C dX0_told_1 (by decide) ?_
  refine z_icmp_ne (tgt := 10) C dX0_told_2 (by decide) (fun c2 => ?_) (fun c2 => ?_)
  · rw [if_neg c2] at hf
    refine z_aload_n C dX0_told_10 rfl 0 rfl ?_
    refine z_get (T := TX0) (v := .int fw) C i_X0_told_0 0 rfl rfl 1 (by decide) m_X0_told_1 rfl rfl dX0_told_11 ?_
    refine z_bipush (v := (-9 : Int32)) C dX0_told_14 (by decide) ?_
    refine z_icmp_eq (tgt := 27) C dX0_told_16 (by decide) (fun c16 => ?_) (fun c16 => ?_)
    · rw [if_pos c16] at hf
      refine z_iload_n C dX0_told_27 rfl 1 rfl ?_
      by_cases c28_0 : w = (0 : Int32)
      · rw [if_pos c28_0] at hf
        refine z_tabIn (tgt := 64) C dX0_told_28 (by rw [c28_0]; decide) (by rw [c28_0]; decide) (by rw [c28_0] <;> rfl) (by decide) ?_
        refine z_aload_n C dX0_told_64 rfl 0 rfl ?_
        refine z_get (T := TX0) (v := .ref h4t) C i_X0_told_0 0 rfl rfl 0 (by decide) m_X0_told_2 rfl rfl dX0_told_65 ?_
        refine z_get (T := TX4) (v := .int pnt) C i_X0_told_4 1 rfl rfl 3 (by decide) m_X0_told_3 rfl rfl dX0_told_68 ?_
        exact z_iretR C hr hlk (by rw [hf]) dX0_told_71
      rw [if_neg c28_0] at hf
      by_cases c28_1 : w = (1 : Int32)
      · rw [if_pos c28_1] at hf
        refine z_tabIn (tgt := 90) C dX0_told_28 (by rw [c28_1]; decide) (by rw [c28_1]; decide) (by rw [c28_1] <;> rfl) (by decide) ?_
        refine z_aload_n C dX0_told_90 rfl 0 rfl ?_
        refine z_get (T := TX0) (v := .ref h4t) C i_X0_told_0 0 rfl rfl 0 (by decide) m_X0_told_2 rfl rfl dX0_told_91 ?_
        refine z_iload_n C dX0_told_94 rfl 1 rfl ?_
        refine z_bipush (v := (10 : Int32)) C dX0_told_95 (by decide) ?_
        refine z_isub C dX0_told_97 ?_
        refine z_cVR (As := [.int (w - (10 : Int32))]) C (c_X4_wishAt l D cI cO h4t a1t a2t a3t pnt slt drt nwt kdt bdt yrt (w - (10 : Int32))) (cwV 1 C.2.2.2.2.1 gX0_told_X4_wishAt rfl rfl rfl hdV_X4_wishAt ⟨Nat.le_of_ble_eq_true rfl, Nat.le_of_ble_eq_true rfl⟩) [1, 2, 3, 4] rfl rfl 1 rfl rfl rfl _ rfl (Nat.le_of_ble_eq_true rfl) ⟨Nat.zero_le _, Nat.zero_le _⟩ dX0_told_98 ?_
        generalize hu98 : (F_X4_wishAt pnt slt drt kdt bdt yrt (w - (10 : Int32))) = u98 at hf ⊢
        exact z_iretR C hr hlk (by rw [hf]) dX0_told_101
      rw [if_neg c28_1] at hf
      by_cases c28_2 : w = (2 : Int32)
      · rw [if_pos c28_2] at hf
        refine z_tabIn (tgt := 72) C dX0_told_28 (by rw [c28_2]; decide) (by rw [c28_2]; decide) (by rw [c28_2] <;> rfl) (by decide) ?_
        refine z_aload_n C dX0_told_72 rfl 0 rfl ?_
        refine z_get (T := TX0) (v := .int lb) C i_X0_told_0 0 rfl rfl 2 (by decide) m_X0_told_4 rfl rfl dX0_told_73 ?_
        exact z_iretR C hr hlk (by rw [hf]) dX0_told_76
      rw [if_neg c28_2] at hf
      by_cases c28_3 : w = (3 : Int32)
      · rw [if_pos c28_3] at hf
        refine z_tabIn (tgt := 77) C dX0_told_28 (by rw [c28_3]; decide) (by rw [c28_3]; decide) (by rw [c28_3] <;> rfl) (by decide) ?_
        refine z_aload_n C dX0_told_77 rfl 0 rfl ?_
        refine z_get (T := TX0) (v := .ref h4t) C i_X0_told_0 0 rfl rfl 0 (by decide) m_X0_told_2 rfl rfl dX0_told_78 ?_
        refine z_get (T := TX4) (v := .int nwt) C i_X0_told_4 1 rfl rfl 6 (by decide) m_X0_told_5 rfl rfl dX0_told_81 ?_
        exact z_iretR C hr hlk (by rw [hf]) dX0_told_84
      rw [if_neg c28_3] at hf
      by_cases c28_4 : w = (4 : Int32)
      · rw [if_pos c28_4] at hf
        refine z_tabIn (tgt := 85) C dX0_told_28 (by rw [c28_4]; decide) (by rw [c28_4]; decide) (by rw [c28_4] <;> rfl) (by decide) ?_
        refine z_aload_n C dX0_told_85 rfl 0 rfl ?_
        refine z_cVR (As := []) C (c_X0_allWishes l D cI cO h0 fw lb h4t a1t a2t a3t pnt slt drt nwt kdt bdt yrt np hpt hnp) (cwV 0 C.2.2.2.2.1 gX0_told_X0_allWishes rfl rfl rfl hdV_X0_allWishes ⟨Nat.le_of_ble_eq_true rfl, Nat.le_of_ble_eq_true rfl⟩) [0, 1, 2, 3, 4] rfl rfl 0 rfl rfl rfl _ rfl (Nat.le_of_ble_eq_true rfl) ⟨Nat.zero_le _, Nat.zero_le _⟩ dX0_told_86 ?_
        generalize hu86 : (F_X0_allWishes pnt slt drt kdt bdt yrt) = u86 at hf ⊢
        exact z_iretR C hr hlk (by rw [hf]) dX0_told_89
      rw [if_neg c28_4] at hf
      refine z_tabOut (tgt := 90) C dX0_told_28 (by have n0 := zne c28_0 (z := 0) (by decide); have n1 := zne c28_1 (z := 1) (by decide); have n2 := zne c28_2 (z := 2) (by decide); have n3 := zne c28_3 (z := 3) (by decide); have n4 := zne c28_4 (z := 4) (by decide); omega) (by decide) ?_
      refine z_aload_n C dX0_told_90 rfl 0 rfl ?_
      refine z_get (T := TX0) (v := .ref h4t) C i_X0_told_0 0 rfl rfl 0 (by decide) m_X0_told_2 rfl rfl dX0_told_91 ?_
      refine z_iload_n C dX0_told_94 rfl 1 rfl ?_
      refine z_bipush (v := (10 : Int32)) C dX0_told_95 (by decide) ?_
      refine z_isub C dX0_told_97 ?_
      refine z_cVR (As := [.int (w - (10 : Int32))]) C (c_X4_wishAt l D cI cO h4t a1t a2t a3t pnt slt drt nwt kdt bdt yrt (w - (10 : Int32))) (cwV 1 C.2.2.2.2.1 gX0_told_X4_wishAt rfl rfl rfl hdV_X4_wishAt ⟨Nat.le_of_ble_eq_true rfl, Nat.le_of_ble_eq_true rfl⟩) [1, 2, 3, 4] rfl rfl 1 rfl rfl rfl _ rfl (Nat.le_of_ble_eq_true rfl) ⟨Nat.zero_le _, Nat.zero_le _⟩ dX0_told_98 ?_
      generalize hu98 : (F_X4_wishAt pnt slt drt kdt bdt yrt (w - (10 : Int32))) = u98 at hf ⊢
      exact z_iretR C hr hlk (by rw [hf]) dX0_told_101
    · rw [if_neg c16] at hf
      refine z_bipush (v := (-100 : Int32)) C dX0_told_19 (by decide) ?_
      refine z_aload_n C dX0_told_21 rfl 0 rfl ?_
      refine z_get (T := TX0) (v := .int fw) C i_X0_told_0 0 rfl rfl 1 (by decide) m_X0_told_1 rfl rfl dX0_told_22 ?_
      refine z_isub C dX0_told_25 ?_
      exact z_iretR C hr hlk (by rw [hf]) dX0_told_26
  · rw [if_pos c2] at hf
    refine z_aload_n C dX0_told_5 rfl 0 rfl ?_
    refine z_get (T := TX0) (v := .int fw) C i_X0_told_0 0 rfl rfl 1 (by decide) m_X0_told_1 rfl rfl dX0_told_6 ?_
    exact z_iretR C hr hlk (by rw [hf]) dX0_told_9
-- X0_play
theorem i_X0_play_0 : ∀ w ∈ u_ws RX0 TX0 3, w ∈ wsX0_play := by decide +kernel
theorem m_X0_play_1 : Cond.fieldLink RX0 12 "WishPins$Century" "then" "LWishPins$Well;" ∈ wsX0_play := List.mem_of_getElem? (i := 1) rfl
theorem m_X0_play_2 : Cond.fieldLink RX0 22 "WishPins$Century" "firstWrong" "I" ∈ wsX0_play := List.mem_of_getElem? (i := 2) rfl
theorem m_X0_play_3 : Cond.fieldLink RX0 26 "WishPins$Century" "likeBelow" "I" ∈ wsX0_play := List.mem_of_getElem? (i := 3) rfl
def F_X0_play_k22 (kdt : Nat → Int32) (bdt : Nat → Int32) (yrt : Nat → Int32) (pn : Int32) (sl : Int32) (dr : Int32) (nw : Int32) (kd : Nat → Int32) (bd : Nat → Int32) (yr : Nat → Int32) (x5_22 : Int32) (fw_22 : Int32) (lb_22 : Int32) (pnt_22 : Int32) (nwt_22 : Int32) (kdt_22 : Nat → Int32) (bdt_22 : Nat → Int32) (yrt_22 : Nat → Int32) : Int32 × Int32 × Int32 × Int32 × Int32 × Int32 × (Nat → Int32) × (Nat → Int32) × (Nat → Int32) :=
  (fw_22, lb_22, pnt_22, (F_X4_become kdt bdt yrt pn sl dr nw kd bd yr).2.1, (F_X4_become kdt bdt yrt pn sl dr nw kd bd yr).2.2.1, nwt_22, kdt_22, bdt_22, yrt_22)
def F_X0_play_l22 (kdt : Nat → Int32) (bdt : Nat → Int32) (yrt : Nat → Int32) (pn : Int32) (sl : Int32) (dr : Int32) (nw : Int32) (kd : Nat → Int32) (bd : Nat → Int32) (yr : Nat → Int32) (lg : Int32) (cl : Nat → Int32) (ti : Int32) (tn : Int32) (K_ : Int32 → Int32 → Int32 → Int32 → Int32 → (Nat → Int32) → (Nat → Int32) → (Nat → Int32) → Int32 × Int32 × Int32 × Int32 × Int32 × Int32 × (Nat → Int32) × (Nat → Int32) × (Nat → Int32)) : Nat → Int32 → Int32 → Int32 → Int32 → Int32 → (Nat → Int32) → (Nat → Int32) → (Nat → Int32) → Int32 × Int32 × Int32 × Int32 × Int32 × Int32 × (Nat → Int32) × (Nat → Int32) × (Nat → Int32)
  | 0, x5_22, fw_22, lb_22, pnt_22, nwt_22, kdt_22, bdt_22, yrt_22 => K_ x5_22 fw_22 lb_22 pnt_22 nwt_22 kdt_22 bdt_22 yrt_22
  | d22 + 1, x5_22, fw_22, lb_22, pnt_22, nwt_22, kdt_22, bdt_22, yrt_22 => (if tn ≤ x5_22 then (K_ x5_22 fw_22 lb_22 pnt_22 nwt_22 kdt_22 bdt_22 yrt_22) else (if fw_22 = (-9 : Int32) then (if (F_X0_canDo lb_22 pnt_22 (F_X4_become kdt bdt yrt pn sl dr nw kd bd yr).2.1 (F_X4_become kdt bdt yrt pn sl dr nw kd bd yr).2.2.1 nwt_22 kdt_22 bdt_22 yrt_22 (F_X3_at lg cl (ti + ((2 : Int32) * x5_22))) (F_X3_at lg cl ((ti + ((2 : Int32) * x5_22)) + (1 : Int32)))).1 = 0 then (F_X0_play_l22 kdt bdt yrt pn sl dr nw kd bd yr lg cl ti tn K_ d22 (x5_22 + (1 : Int32)) x5_22 (F_X0_canDo lb_22 pnt_22 (F_X4_become kdt bdt yrt pn sl dr nw kd bd yr).2.1 (F_X4_become kdt bdt yrt pn sl dr nw kd bd yr).2.2.1 nwt_22 kdt_22 bdt_22 yrt_22 (F_X3_at lg cl (ti + ((2 : Int32) * x5_22))) (F_X3_at lg cl ((ti + ((2 : Int32) * x5_22)) + (1 : Int32)))).2.1 (F_X0_canDo lb_22 pnt_22 (F_X4_become kdt bdt yrt pn sl dr nw kd bd yr).2.1 (F_X4_become kdt bdt yrt pn sl dr nw kd bd yr).2.2.1 nwt_22 kdt_22 bdt_22 yrt_22 (F_X3_at lg cl (ti + ((2 : Int32) * x5_22))) (F_X3_at lg cl ((ti + ((2 : Int32) * x5_22)) + (1 : Int32)))).2.2.1 (F_X0_canDo lb_22 pnt_22 (F_X4_become kdt bdt yrt pn sl dr nw kd bd yr).2.1 (F_X4_become kdt bdt yrt pn sl dr nw kd bd yr).2.2.1 nwt_22 kdt_22 bdt_22 yrt_22 (F_X3_at lg cl (ti + ((2 : Int32) * x5_22))) (F_X3_at lg cl ((ti + ((2 : Int32) * x5_22)) + (1 : Int32)))).2.2.2.1 (F_X0_canDo lb_22 pnt_22 (F_X4_become kdt bdt yrt pn sl dr nw kd bd yr).2.1 (F_X4_become kdt bdt yrt pn sl dr nw kd bd yr).2.2.1 nwt_22 kdt_22 bdt_22 yrt_22 (F_X3_at lg cl (ti + ((2 : Int32) * x5_22))) (F_X3_at lg cl ((ti + ((2 : Int32) * x5_22)) + (1 : Int32)))).2.2.2.2.1 (F_X0_canDo lb_22 pnt_22 (F_X4_become kdt bdt yrt pn sl dr nw kd bd yr).2.1 (F_X4_become kdt bdt yrt pn sl dr nw kd bd yr).2.2.1 nwt_22 kdt_22 bdt_22 yrt_22 (F_X3_at lg cl (ti + ((2 : Int32) * x5_22))) (F_X3_at lg cl ((ti + ((2 : Int32) * x5_22)) + (1 : Int32)))).2.2.2.2.2.1 (F_X0_canDo lb_22 pnt_22 (F_X4_become kdt bdt yrt pn sl dr nw kd bd yr).2.1 (F_X4_become kdt bdt yrt pn sl dr nw kd bd yr).2.2.1 nwt_22 kdt_22 bdt_22 yrt_22 (F_X3_at lg cl (ti + ((2 : Int32) * x5_22))) (F_X3_at lg cl ((ti + ((2 : Int32) * x5_22)) + (1 : Int32)))).2.2.2.2.2.2) else (F_X0_play_l22 kdt bdt yrt pn sl dr nw kd bd yr lg cl ti tn K_ d22 (x5_22 + (1 : Int32)) fw_22 (F_X0_canDo lb_22 pnt_22 (F_X4_become kdt bdt yrt pn sl dr nw kd bd yr).2.1 (F_X4_become kdt bdt yrt pn sl dr nw kd bd yr).2.2.1 nwt_22 kdt_22 bdt_22 yrt_22 (F_X3_at lg cl (ti + ((2 : Int32) * x5_22))) (F_X3_at lg cl ((ti + ((2 : Int32) * x5_22)) + (1 : Int32)))).2.1 (F_X0_canDo lb_22 pnt_22 (F_X4_become kdt bdt yrt pn sl dr nw kd bd yr).2.1 (F_X4_become kdt bdt yrt pn sl dr nw kd bd yr).2.2.1 nwt_22 kdt_22 bdt_22 yrt_22 (F_X3_at lg cl (ti + ((2 : Int32) * x5_22))) (F_X3_at lg cl ((ti + ((2 : Int32) * x5_22)) + (1 : Int32)))).2.2.1 (F_X0_canDo lb_22 pnt_22 (F_X4_become kdt bdt yrt pn sl dr nw kd bd yr).2.1 (F_X4_become kdt bdt yrt pn sl dr nw kd bd yr).2.2.1 nwt_22 kdt_22 bdt_22 yrt_22 (F_X3_at lg cl (ti + ((2 : Int32) * x5_22))) (F_X3_at lg cl ((ti + ((2 : Int32) * x5_22)) + (1 : Int32)))).2.2.2.1 (F_X0_canDo lb_22 pnt_22 (F_X4_become kdt bdt yrt pn sl dr nw kd bd yr).2.1 (F_X4_become kdt bdt yrt pn sl dr nw kd bd yr).2.2.1 nwt_22 kdt_22 bdt_22 yrt_22 (F_X3_at lg cl (ti + ((2 : Int32) * x5_22))) (F_X3_at lg cl ((ti + ((2 : Int32) * x5_22)) + (1 : Int32)))).2.2.2.2.1 (F_X0_canDo lb_22 pnt_22 (F_X4_become kdt bdt yrt pn sl dr nw kd bd yr).2.1 (F_X4_become kdt bdt yrt pn sl dr nw kd bd yr).2.2.1 nwt_22 kdt_22 bdt_22 yrt_22 (F_X3_at lg cl (ti + ((2 : Int32) * x5_22))) (F_X3_at lg cl ((ti + ((2 : Int32) * x5_22)) + (1 : Int32)))).2.2.2.2.2.1 (F_X0_canDo lb_22 pnt_22 (F_X4_become kdt bdt yrt pn sl dr nw kd bd yr).2.1 (F_X4_become kdt bdt yrt pn sl dr nw kd bd yr).2.2.1 nwt_22 kdt_22 bdt_22 yrt_22 (F_X3_at lg cl (ti + ((2 : Int32) * x5_22))) (F_X3_at lg cl ((ti + ((2 : Int32) * x5_22)) + (1 : Int32)))).2.2.2.2.2.2)) else (K_ x5_22 fw_22 lb_22 pnt_22 nwt_22 kdt_22 bdt_22 yrt_22)))
def F_X0_play (kdt : Nat → Int32) (bdt : Nat → Int32) (yrt : Nat → Int32) (pn : Int32) (sl : Int32) (dr : Int32) (nw : Int32) (kd : Nat → Int32) (bd : Nat → Int32) (yr : Nat → Int32) (lg : Int32) (cl : Nat → Int32) (ti : Int32) (tn : Int32) : Int32 × Int32 × Int32 × Int32 × Int32 × Int32 × (Nat → Int32) × (Nat → Int32) × (Nat → Int32) :=
  (F_X0_play_l22 kdt bdt yrt pn sl dr nw kd bd yr lg cl ti tn (F_X0_play_k22 kdt bdt yrt pn sl dr nw kd bd yr) 21 (0 : Int32) (-9 : Int32) (0 : Int32) (F_X4_become kdt bdt yrt pn sl dr nw kd bd yr).1 (F_X4_become kdt bdt yrt pn sl dr nw kd bd yr).2.2.2.1 (F_X4_become kdt bdt yrt pn sl dr nw kd bd yr).2.2.2.2.1 (F_X4_become kdt bdt yrt pn sl dr nw kd bd yr).2.2.2.2.2.1 (F_X4_become kdt bdt yrt pn sl dr nw kd bd yr).2.2.2.2.2.2)
set_option maxHeartbeats 4000000 in
set_option maxRecDepth 100000 in
theorem c_X0_play (l : Launch) (D : va_G) (cI cO : ClassId) (h0 : Nat) (fw : Int32) (lb : Int32) (h4t : Nat) (a1t : Nat) (a2t : Nat) (a3t : Nat) (pnt : Int32) (slt : Int32) (drt : Int32) (nwt : Int32) (kdt : Nat → Int32) (bdt : Nat → Int32) (yrt : Nat → Int32) (h4 : Nat) (a1 : Nat) (a2 : Nat) (a3 : Nat) (pn : Int32) (sl : Int32) (dr : Int32) (nw : Int32) (kd : Nat → Int32) (bd : Nat → Int32) (yr : Nat → Int32) (h3 : Nat) (b1 : Nat) (ln : Int32) (lg : Int32) (cl : Nat → Int32) (ti : Int32) (tn : Int32) (N0 : Nat) (hlg : lg ≤ 60) (hTN : tn = nI N0) (hN20 : N0 ≤ 20) : zW l yX0_play wsX0_play ({ frames := 3, cells := 0, slots := 0, locals := 67 } : Room) D cI cO [.ref h0, .ref h4, .ref h3, .int ti, .int tn] [(h0, .inr (0, [.ref h4t, .int fw, .int lb])), (h4t, .inr (4, [.ref a1t, .ref a2t, .ref a3t, .int pnt, .int slt, .int drt, .int nwt])), (a1t, .inl (cI, 9, .inl kdt)), (a2t, .inl (cI, 9, .inl bdt)), (a3t, .inl (cI, 9, .inl yrt)), (h4, .inr (4, [.ref a1, .ref a2, .ref a3, .int pn, .int sl, .int dr, .int nw])), (a1, .inl (cI, 9, .inl kd)), (a2, .inl (cI, 9, .inl bd)), (a3, .inl (cI, 9, .inl yr)), (h3, .inr (3, [.ref b1, .int ln, .int lg])), (b1, .inl (cI, 60, .inl cl))] [(h0, .inr (0, [.ref h4t, .int ((F_X0_play kdt bdt yrt pn sl dr nw kd bd yr lg cl ti tn).1), .int ((F_X0_play kdt bdt yrt pn sl dr nw kd bd yr lg cl ti tn).2.1)])), (h4t, .inr (4, [.ref a1t, .ref a2t, .ref a3t, .int ((F_X0_play kdt bdt yrt pn sl dr nw kd bd yr lg cl ti tn).2.2.1), .int ((F_X0_play kdt bdt yrt pn sl dr nw kd bd yr lg cl ti tn).2.2.2.1), .int ((F_X0_play kdt bdt yrt pn sl dr nw kd bd yr lg cl ti tn).2.2.2.2.1), .int ((F_X0_play kdt bdt yrt pn sl dr nw kd bd yr lg cl ti tn).2.2.2.2.2.1)])), (a1t, .inl (cI, 9, .inl ((F_X0_play kdt bdt yrt pn sl dr nw kd bd yr lg cl ti tn).2.2.2.2.2.2.1))), (a2t, .inl (cI, 9, .inl ((F_X0_play kdt bdt yrt pn sl dr nw kd bd yr lg cl ti tn).2.2.2.2.2.2.2.1))), (a3t, .inl (cI, 9, .inl ((F_X0_play kdt bdt yrt pn sl dr nw kd bd yr lg cl ti tn).2.2.2.2.2.2.2.2))), (h4, .inr (4, [.ref a1, .ref a2, .ref a3, .int pn, .int sl, .int dr, .int nw])), (a1, .inl (cI, 9, .inl kd)), (a2, .inl (cI, 9, .inl bd)), (a3, .inl (cI, 9, .inl yr)), (h3, .inr (3, [.ref b1, .int ln, .int lg])), (b1, .inl (cI, 60, .inl cl))] none := by
  refine zW_of (nL := 6) (cc := cX0_play) (ret := none) (lv := [(0, .ref h0), (1, .ref h4), (2, .ref h3), (3, .int ti), (4, .int tn)]) (by decide +kernel) rfl (Nat.le_of_ble_eq_true rfl) rfl (fun p e s m args below meth c C hr hlk => ?_)
  have hf := F_X0_play.eq_1 kdt bdt yrt pn sl dr nw kd bd yr lg cl ti tn
  refine z_aload_n C dX0_play_0 rfl 0 rfl ?_
  refine z_get (T := TX0) (v := .ref h4t) C i_X0_play_0 0 rfl rfl 0 (by decide) m_X0_play_1 rfl rfl dX0_play_1 ?_
  refine z_aload_n C dX0_play_4 rfl 1 rfl ?_
  refine z_cVW (As := [.ref h4]) C (c_X4_become l D cI cO h4t a1t a2t a3t pnt slt drt nwt kdt bdt yrt h4 a1 a2 a3 pn sl dr nw kd bd yr) (cwV 1 C.2.2.2.2.1 gX0_play_X4_become rfl rfl rfl hdV_X4_become ⟨Nat.le_of_ble_eq_true rfl, Nat.le_of_ble_eq_true rfl⟩) [(h0, .inr (0, [.ref h4t, .int fw, .int lb])), (h4t, .inr (4, [.ref a1t, .ref a2t, .ref a3t, .int ((F_X4_become kdt bdt yrt pn sl dr nw kd bd yr).1), .int ((F_X4_become kdt bdt yrt pn sl dr nw kd bd yr).2.1), .int ((F_X4_become kdt bdt yrt pn sl dr nw kd bd yr).2.2.1), .int ((F_X4_become kdt bdt yrt pn sl dr nw kd bd yr).2.2.2.1)])), (a1t, .inl (cI, 9, .inl ((F_X4_become kdt bdt yrt pn sl dr nw kd bd yr).2.2.2.2.1))), (a2t, .inl (cI, 9, .inl ((F_X4_become kdt bdt yrt pn sl dr nw kd bd yr).2.2.2.2.2.1))), (a3t, .inl (cI, 9, .inl ((F_X4_become kdt bdt yrt pn sl dr nw kd bd yr).2.2.2.2.2.2))), (h4, .inr (4, [.ref a1, .ref a2, .ref a3, .int pn, .int sl, .int dr, .int nw])), (a1, .inl (cI, 9, .inl kd)), (a2, .inl (cI, 9, .inl bd)), (a3, .inl (cI, 9, .inl yr)), (h3, .inr (3, [.ref b1, .int ln, .int lg])), (b1, .inl (cI, 60, .inl cl))] [1, 2, 3, 4, 5, 6, 7, 8] rfl rfl (Eq.refl [h4t, a1t, a2t, a3t, h4, a1, a2, a3]) rfl 1 rfl rfl rfl _ rfl (Nat.le_of_ble_eq_true rfl) ⟨Nat.zero_le _, Nat.zero_le _⟩ dX0_play_5 ?_
  generalize hu5 : (F_X4_become kdt bdt yrt pn sl dr nw kd bd yr) = u5 at hf ⊢
  refine z_aload_n C dX0_play_8 rfl 0 rfl ?_
  refine z_bipush (v := (-9 : Int32)) C dX0_play_9 (by decide) ?_
  refine z_put (T := TX0) (ty := .int) C [(h0, .inr (0, [.ref h4t, .int (-9 : Int32), .int lb])), (h4t, .inr (4, [.ref a1t, .ref a2t, .ref a3t, .int u5.1, .int u5.2.1, .int u5.2.2.1, .int u5.2.2.2.1])), (a1t, .inl (cI, 9, .inl u5.2.2.2.2.1)), (a2t, .inl (cI, 9, .inl u5.2.2.2.2.2.1)), (a3t, .inl (cI, 9, .inl u5.2.2.2.2.2.2)), (h4, .inr (4, [.ref a1, .ref a2, .ref a3, .int pn, .int sl, .int dr, .int nw])), (a1, .inl (cI, 9, .inl kd)), (a2, .inl (cI, 9, .inl bd)), (a3, .inl (cI, 9, .inl yr)), (h3, .inr (3, [.ref b1, .int ln, .int lg])), (b1, .inl (cI, 60, .inl cl))] i_X0_play_0 tyX0 tyX0_ok nmX0 0 rfl rfl 1 (by decide) m_X0_play_2 rfl rfl (by decide +kernel) rfl rfl (Nat.le_of_ble_eq_true rfl) dX0_play_11 rfl ?_
  refine z_aload_n C dX0_play_14 rfl 0 rfl ?_
  refine z_iconst (v := (0 : Int32)) C dX0_play_15 (by decide) ?_
  refine z_put (T := TX0) (ty := .int) C [(h0, .inr (0, [.ref h4t, .int (-9 : Int32), .int (0 : Int32)])), (h4t, .inr (4, [.ref a1t, .ref a2t, .ref a3t, .int u5.1, .int u5.2.1, .int u5.2.2.1, .int u5.2.2.2.1])), (a1t, .inl (cI, 9, .inl u5.2.2.2.2.1)), (a2t, .inl (cI, 9, .inl u5.2.2.2.2.2.1)), (a3t, .inl (cI, 9, .inl u5.2.2.2.2.2.2)), (h4, .inr (4, [.ref a1, .ref a2, .ref a3, .int pn, .int sl, .int dr, .int nw])), (a1, .inl (cI, 9, .inl kd)), (a2, .inl (cI, 9, .inl bd)), (a3, .inl (cI, 9, .inl yr)), (h3, .inr (3, [.ref b1, .int ln, .int lg])), (b1, .inl (cI, 60, .inl cl))] i_X0_play_0 tyX0 tyX0_ok nmX0 0 rfl rfl 2 (by decide) m_X0_play_3 rfl rfl (by decide +kernel) rfl rfl (Nat.le_of_ble_eq_true rfl) dX0_play_16 rfl ?_
  refine z_iconst (v := (0 : Int32)) C dX0_play_19 (by decide) ?_
  refine z_istore C [(0, .ref h0), (1, .ref h4), (2, .ref h3), (3, .int ti), (4, .int tn), (5, .int (0 : Int32))] dX0_play_20 (by decide) [1, 2, 3, 4, 5, 0] rfl ?_
  have X22 : ∀ (x5_22 : Int32) (fw_22 : Int32) (lb_22 : Int32) (pnt_22 : Int32) (nwt_22 : Int32) (kdt_22 : Nat → Int32) (bdt_22 : Nat → Int32) (yrt_22 : Nat → Int32), F_X0_play kdt bdt yrt pn sl dr nw kd bd yr lg cl ti tn = (F_X0_play_k22 kdt bdt yrt pn sl dr nw kd bd yr) x5_22 fw_22 lb_22 pnt_22 nwt_22 kdt_22 bdt_22 yrt_22 → zG p l e ({ frames := 3, cells := 0, slots := 0, locals := 67 } : Room) s m args below meth c D (zA [(h0, .inr (0, [.ref h4t, .int fw, .int lb])), (h4t, .inr (4, [.ref a1t, .ref a2t, .ref a3t, .int pnt, .int slt, .int drt, .int nwt])), (a1t, .inl (cI, 9, .inl kdt)), (a2t, .inl (cI, 9, .inl bdt)), (a3t, .inl (cI, 9, .inl yrt)), (h4, .inr (4, [.ref a1, .ref a2, .ref a3, .int pn, .int sl, .int dr, .int nw])), (a1, .inl (cI, 9, .inl kd)), (a2, .inl (cI, 9, .inl bd)), (a3, .inl (cI, 9, .inl yr)), (h3, .inr (3, [.ref b1, .int ln, .int lg])), (b1, .inl (cI, 60, .inl cl))]) (zXw (zA [(h0, .inr (0, [.ref h4t, .int fw, .int lb])), (h4t, .inr (4, [.ref a1t, .ref a2t, .ref a3t, .int pnt, .int slt, .int drt, .int nwt])), (a1t, .inl (cI, 9, .inl kdt)), (a2t, .inl (cI, 9, .inl bdt)), (a3t, .inl (cI, 9, .inl yrt)), (h4, .inr (4, [.ref a1, .ref a2, .ref a3, .int pn, .int sl, .int dr, .int nw])), (a1, .inl (cI, 9, .inl kd)), (a2, .inl (cI, 9, .inl bd)), (a3, .inl (cI, 9, .inl yr)), (h3, .inr (3, [.ref b1, .int ln, .int lg])), (b1, .inl (cI, 60, .inl cl))]) s.heap) 6 0 0 (MQ below (zQw D [(h0, .inr (0, [.ref h4t, .int ((F_X0_play kdt bdt yrt pn sl dr nw kd bd yr lg cl ti tn).1), .int ((F_X0_play kdt bdt yrt pn sl dr nw kd bd yr lg cl ti tn).2.1)])), (h4t, .inr (4, [.ref a1t, .ref a2t, .ref a3t, .int ((F_X0_play kdt bdt yrt pn sl dr nw kd bd yr lg cl ti tn).2.2.1), .int ((F_X0_play kdt bdt yrt pn sl dr nw kd bd yr lg cl ti tn).2.2.2.1), .int ((F_X0_play kdt bdt yrt pn sl dr nw kd bd yr lg cl ti tn).2.2.2.2.1), .int ((F_X0_play kdt bdt yrt pn sl dr nw kd bd yr lg cl ti tn).2.2.2.2.2.1)])), (a1t, .inl (cI, 9, .inl ((F_X0_play kdt bdt yrt pn sl dr nw kd bd yr lg cl ti tn).2.2.2.2.2.2.1))), (a2t, .inl (cI, 9, .inl ((F_X0_play kdt bdt yrt pn sl dr nw kd bd yr lg cl ti tn).2.2.2.2.2.2.2.1))), (a3t, .inl (cI, 9, .inl ((F_X0_play kdt bdt yrt pn sl dr nw kd bd yr lg cl ti tn).2.2.2.2.2.2.2.2))), (h4, .inr (4, [.ref a1, .ref a2, .ref a3, .int pn, .int sl, .int dr, .int nw])), (a1, .inl (cI, 9, .inl kd)), (a2, .inl (cI, 9, .inl bd)), (a3, .inl (cI, 9, .inl yr)), (h3, .inr (3, [.ref b1, .int ln, .int lg])), (b1, .inl (cI, 60, .inl cl))] (zA [(h0, .inr (0, [.ref h4t, .int fw, .int lb])), (h4t, .inr (4, [.ref a1t, .ref a2t, .ref a3t, .int pnt, .int slt, .int drt, .int nwt])), (a1t, .inl (cI, 9, .inl kdt)), (a2t, .inl (cI, 9, .inl bdt)), (a3t, .inl (cI, 9, .inl yrt)), (h4, .inr (4, [.ref a1, .ref a2, .ref a3, .int pn, .int sl, .int dr, .int nw])), (a1, .inl (cI, 9, .inl kd)), (a2, .inl (cI, 9, .inl bd)), (a3, .inl (cI, 9, .inl yr)), (h3, .inr (3, [.ref b1, .int ln, .int lg])), (b1, .inl (cI, 60, .inl cl))]) none) args s 0 0 (zA [(h0, .inr (0, [.ref h4t, .int fw, .int lb])), (h4t, .inr (4, [.ref a1t, .ref a2t, .ref a3t, .int pnt, .int slt, .int drt, .int nwt])), (a1t, .inl (cI, 9, .inl kdt)), (a2t, .inl (cI, 9, .inl bdt)), (a3t, .inl (cI, 9, .inl yrt)), (h4, .inr (4, [.ref a1, .ref a2, .ref a3, .int pn, .int sl, .int dr, .int nw])), (a1, .inl (cI, 9, .inl kd)), (a2, .inl (cI, 9, .inl bd)), (a3, .inl (cI, 9, .inl yr)), (h3, .inr (3, [.ref b1, .int ln, .int lg])), (b1, .inl (cI, 60, .inl cl))])) 79 [(0, .ref h0), (1, .ref h4), (2, .ref h3), (3, .int ti), (4, .int tn), (5, .int x5_22)] [] [(h0, .inr (0, [.ref h4t, .int fw_22, .int lb_22])), (h4t, .inr (4, [.ref a1t, .ref a2t, .ref a3t, .int pnt_22, .int u5.2.1, .int u5.2.2.1, .int nwt_22])), (a1t, .inl (cI, 9, .inl kdt_22)), (a2t, .inl (cI, 9, .inl bdt_22)), (a3t, .inl (cI, 9, .inl yrt_22)), (h4, .inr (4, [.ref a1, .ref a2, .ref a3, .int pn, .int sl, .int dr, .int nw])), (a1, .inl (cI, 9, .inl kd)), (a2, .inl (cI, 9, .inl bd)), (a3, .inl (cI, 9, .inl yr)), (h3, .inr (3, [.ref b1, .int ln, .int lg])), (b1, .inl (cI, 60, .inl cl))] := by
    intro x5_22 fw_22 lb_22 pnt_22 nwt_22 kdt_22 bdt_22 yrt_22 hf
    rw [F_X0_play_k22] at hf
    simp only [hu5] at hf
    exact z_vretW C hr hlk (by rw [hf]) dX0_play_79
  have L22 : ∀ (d22 : Nat) (j : Nat) (x5_22 : Int32) (fw_22 : Int32) (lb_22 : Int32) (pnt_22 : Int32) (nwt_22 : Int32) (kdt_22 : Nat → Int32) (bdt_22 : Nat → Int32) (yrt_22 : Nat → Int32) (e5 : x5_22 = nI j) (hj : j ≤ N0) (hd : N0 < j + d22), F_X0_play kdt bdt yrt pn sl dr nw kd bd yr lg cl ti tn = F_X0_play_l22 kdt bdt yrt pn sl dr nw kd bd yr lg cl ti tn (F_X0_play_k22 kdt bdt yrt pn sl dr nw kd bd yr) d22 x5_22 fw_22 lb_22 pnt_22 nwt_22 kdt_22 bdt_22 yrt_22 → zG p l e ({ frames := 3, cells := 0, slots := 0, locals := 67 } : Room) s m args below meth c D (zA [(h0, .inr (0, [.ref h4t, .int fw, .int lb])), (h4t, .inr (4, [.ref a1t, .ref a2t, .ref a3t, .int pnt, .int slt, .int drt, .int nwt])), (a1t, .inl (cI, 9, .inl kdt)), (a2t, .inl (cI, 9, .inl bdt)), (a3t, .inl (cI, 9, .inl yrt)), (h4, .inr (4, [.ref a1, .ref a2, .ref a3, .int pn, .int sl, .int dr, .int nw])), (a1, .inl (cI, 9, .inl kd)), (a2, .inl (cI, 9, .inl bd)), (a3, .inl (cI, 9, .inl yr)), (h3, .inr (3, [.ref b1, .int ln, .int lg])), (b1, .inl (cI, 60, .inl cl))]) (zXw (zA [(h0, .inr (0, [.ref h4t, .int fw, .int lb])), (h4t, .inr (4, [.ref a1t, .ref a2t, .ref a3t, .int pnt, .int slt, .int drt, .int nwt])), (a1t, .inl (cI, 9, .inl kdt)), (a2t, .inl (cI, 9, .inl bdt)), (a3t, .inl (cI, 9, .inl yrt)), (h4, .inr (4, [.ref a1, .ref a2, .ref a3, .int pn, .int sl, .int dr, .int nw])), (a1, .inl (cI, 9, .inl kd)), (a2, .inl (cI, 9, .inl bd)), (a3, .inl (cI, 9, .inl yr)), (h3, .inr (3, [.ref b1, .int ln, .int lg])), (b1, .inl (cI, 60, .inl cl))]) s.heap) 6 0 0 (MQ below (zQw D [(h0, .inr (0, [.ref h4t, .int ((F_X0_play kdt bdt yrt pn sl dr nw kd bd yr lg cl ti tn).1), .int ((F_X0_play kdt bdt yrt pn sl dr nw kd bd yr lg cl ti tn).2.1)])), (h4t, .inr (4, [.ref a1t, .ref a2t, .ref a3t, .int ((F_X0_play kdt bdt yrt pn sl dr nw kd bd yr lg cl ti tn).2.2.1), .int ((F_X0_play kdt bdt yrt pn sl dr nw kd bd yr lg cl ti tn).2.2.2.1), .int ((F_X0_play kdt bdt yrt pn sl dr nw kd bd yr lg cl ti tn).2.2.2.2.1), .int ((F_X0_play kdt bdt yrt pn sl dr nw kd bd yr lg cl ti tn).2.2.2.2.2.1)])), (a1t, .inl (cI, 9, .inl ((F_X0_play kdt bdt yrt pn sl dr nw kd bd yr lg cl ti tn).2.2.2.2.2.2.1))), (a2t, .inl (cI, 9, .inl ((F_X0_play kdt bdt yrt pn sl dr nw kd bd yr lg cl ti tn).2.2.2.2.2.2.2.1))), (a3t, .inl (cI, 9, .inl ((F_X0_play kdt bdt yrt pn sl dr nw kd bd yr lg cl ti tn).2.2.2.2.2.2.2.2))), (h4, .inr (4, [.ref a1, .ref a2, .ref a3, .int pn, .int sl, .int dr, .int nw])), (a1, .inl (cI, 9, .inl kd)), (a2, .inl (cI, 9, .inl bd)), (a3, .inl (cI, 9, .inl yr)), (h3, .inr (3, [.ref b1, .int ln, .int lg])), (b1, .inl (cI, 60, .inl cl))] (zA [(h0, .inr (0, [.ref h4t, .int fw, .int lb])), (h4t, .inr (4, [.ref a1t, .ref a2t, .ref a3t, .int pnt, .int slt, .int drt, .int nwt])), (a1t, .inl (cI, 9, .inl kdt)), (a2t, .inl (cI, 9, .inl bdt)), (a3t, .inl (cI, 9, .inl yrt)), (h4, .inr (4, [.ref a1, .ref a2, .ref a3, .int pn, .int sl, .int dr, .int nw])), (a1, .inl (cI, 9, .inl kd)), (a2, .inl (cI, 9, .inl bd)), (a3, .inl (cI, 9, .inl yr)), (h3, .inr (3, [.ref b1, .int ln, .int lg])), (b1, .inl (cI, 60, .inl cl))]) none) args s 0 0 (zA [(h0, .inr (0, [.ref h4t, .int fw, .int lb])), (h4t, .inr (4, [.ref a1t, .ref a2t, .ref a3t, .int pnt, .int slt, .int drt, .int nwt])), (a1t, .inl (cI, 9, .inl kdt)), (a2t, .inl (cI, 9, .inl bdt)), (a3t, .inl (cI, 9, .inl yrt)), (h4, .inr (4, [.ref a1, .ref a2, .ref a3, .int pn, .int sl, .int dr, .int nw])), (a1, .inl (cI, 9, .inl kd)), (a2, .inl (cI, 9, .inl bd)), (a3, .inl (cI, 9, .inl yr)), (h3, .inr (3, [.ref b1, .int ln, .int lg])), (b1, .inl (cI, 60, .inl cl))])) 22 [(0, .ref h0), (1, .ref h4), (2, .ref h3), (3, .int ti), (4, .int tn), (5, .int x5_22)] [] [(h0, .inr (0, [.ref h4t, .int fw_22, .int lb_22])), (h4t, .inr (4, [.ref a1t, .ref a2t, .ref a3t, .int pnt_22, .int u5.2.1, .int u5.2.2.1, .int nwt_22])), (a1t, .inl (cI, 9, .inl kdt_22)), (a2t, .inl (cI, 9, .inl bdt_22)), (a3t, .inl (cI, 9, .inl yrt_22)), (h4, .inr (4, [.ref a1, .ref a2, .ref a3, .int pn, .int sl, .int dr, .int nw])), (a1, .inl (cI, 9, .inl kd)), (a2, .inl (cI, 9, .inl bd)), (a3, .inl (cI, 9, .inl yr)), (h3, .inr (3, [.ref b1, .int ln, .int lg])), (b1, .inl (cI, 60, .inl cl))] := by
    intro d22
    induction d22 with
    | zero =>
      intro j x5_22 fw_22 lb_22 pnt_22 nwt_22 kdt_22 bdt_22 yrt_22 e5 hj hd hf
      exfalso; omega
    | succ d22 ih22 =>
      intro j x5_22 fw_22 lb_22 pnt_22 nwt_22 kdt_22 bdt_22 yrt_22 e5 hj hd hf
      rw [F_X0_play_l22] at hf
      simp only [hu5] at hf
      refine z_iload C dX0_play_22 5 rfl ?_
      refine z_iload C dX0_play_24 4 rfl ?_
      refine z_icmp_ge (tgt := 79) C dX0_play_26 (by decide) (fun c26 => ?_) (fun c26 => ?_)
      · rw [if_pos c26] at hf
        exact X22 x5_22 fw_22 lb_22 pnt_22 nwt_22 kdt_22 bdt_22 yrt_22  hf
      · rw [if_neg c26] at hf
        refine z_aload_n C dX0_play_29 rfl 0 rfl ?_
        refine z_get (T := TX0) (v := .int fw_22) C i_X0_play_0 0 rfl rfl 1 (by decide) m_X0_play_2 rfl rfl dX0_play_30 ?_
        refine z_bipush (v := (-9 : Int32)) C dX0_play_33 (by decide) ?_
        refine z_icmp_ne (tgt := 79) C dX0_play_35 (by decide) (fun c35 => ?_) (fun c35 => ?_)
        · rw [if_neg c35] at hf
          exact X22 x5_22 fw_22 lb_22 pnt_22 nwt_22 kdt_22 bdt_22 yrt_22  hf
        · rw [if_pos c35] at hf
          refine z_aload_n C dX0_play_38 rfl 0 rfl ?_
          refine z_aload_n C dX0_play_39 rfl 2 rfl ?_
          refine z_iload_n C dX0_play_40 rfl 3 rfl ?_
          refine z_iconst (v := (2 : Int32)) C dX0_play_41 (by decide) ?_
          refine z_iload C dX0_play_42 5 rfl ?_
          refine z_imul C dX0_play_44 ?_
          refine z_iadd C dX0_play_45 ?_
          refine z_cVR (As := [.int (ti + ((2 : Int32) * x5_22))]) C (c_X3_at l D cI cO h3 b1 ln lg cl (ti + ((2 : Int32) * x5_22)) (by subst hu5; exact hlg)) (cwV 1 C.2.2.2.2.1 gX0_play_X3_at rfl rfl rfl hdV_X3_at ⟨Nat.le_of_ble_eq_true rfl, Nat.le_of_ble_eq_true rfl⟩) [9, 10] rfl rfl 9 rfl rfl rfl _ rfl (Nat.le_of_ble_eq_true rfl) ⟨Nat.zero_le _, Nat.zero_le _⟩ dX0_play_46 ?_
          generalize hu46 : (F_X3_at lg cl (ti + ((2 : Int32) * x5_22))) = u46 at hf ⊢
          refine z_aload_n C dX0_play_49 rfl 2 rfl ?_
          refine z_iload_n C dX0_play_50 rfl 3 rfl ?_
          refine z_iconst (v := (2 : Int32)) C dX0_play_51 (by decide) ?_
          refine z_iload C dX0_play_52 5 rfl ?_
          refine z_imul C dX0_play_54 ?_
          refine z_iadd C dX0_play_55 ?_
          refine z_iconst (v := (1 : Int32)) C dX0_play_56 (by decide) ?_
          refine z_iadd C dX0_play_57 ?_
          refine z_cVR (As := [.int ((ti + ((2 : Int32) * x5_22)) + (1 : Int32))]) C (c_X3_at l D cI cO h3 b1 ln lg cl ((ti + ((2 : Int32) * x5_22)) + (1 : Int32)) (by subst hu46 hu5; exact hlg)) (cwV 1 C.2.2.2.2.1 gX0_play_X3_at rfl rfl rfl hdV_X3_at ⟨Nat.le_of_ble_eq_true rfl, Nat.le_of_ble_eq_true rfl⟩) [9, 10] rfl rfl 9 rfl rfl rfl _ rfl (Nat.le_of_ble_eq_true rfl) ⟨Nat.zero_le _, Nat.zero_le _⟩ dX0_play_58 ?_
          generalize hu58 : (F_X3_at lg cl ((ti + ((2 : Int32) * x5_22)) + (1 : Int32))) = u58 at hf ⊢
          refine z_cVW (As := [.int u46, .int u58]) C (c_X0_canDo l D cI cO h0 fw_22 lb_22 h4t a1t a2t a3t pnt_22 u5.2.1 u5.2.2.1 nwt_22 kdt_22 bdt_22 yrt_22 u46 u58) (cwV 2 C.2.2.2.2.1 gX0_play_X0_canDo rfl rfl rfl hdV_X0_canDo ⟨Nat.le_of_ble_eq_true rfl, Nat.le_of_ble_eq_true rfl⟩) [(h0, .inr (0, [.ref h4t, .int fw_22, .int ((F_X0_canDo lb_22 pnt_22 u5.2.1 u5.2.2.1 nwt_22 kdt_22 bdt_22 yrt_22 u46 u58).2.1)])), (h4t, .inr (4, [.ref a1t, .ref a2t, .ref a3t, .int ((F_X0_canDo lb_22 pnt_22 u5.2.1 u5.2.2.1 nwt_22 kdt_22 bdt_22 yrt_22 u46 u58).2.2.1), .int u5.2.1, .int u5.2.2.1, .int ((F_X0_canDo lb_22 pnt_22 u5.2.1 u5.2.2.1 nwt_22 kdt_22 bdt_22 yrt_22 u46 u58).2.2.2.1)])), (a1t, .inl (cI, 9, .inl ((F_X0_canDo lb_22 pnt_22 u5.2.1 u5.2.2.1 nwt_22 kdt_22 bdt_22 yrt_22 u46 u58).2.2.2.2.1))), (a2t, .inl (cI, 9, .inl ((F_X0_canDo lb_22 pnt_22 u5.2.1 u5.2.2.1 nwt_22 kdt_22 bdt_22 yrt_22 u46 u58).2.2.2.2.2.1))), (a3t, .inl (cI, 9, .inl ((F_X0_canDo lb_22 pnt_22 u5.2.1 u5.2.2.1 nwt_22 kdt_22 bdt_22 yrt_22 u46 u58).2.2.2.2.2.2))), (h4, .inr (4, [.ref a1, .ref a2, .ref a3, .int pn, .int sl, .int dr, .int nw])), (a1, .inl (cI, 9, .inl kd)), (a2, .inl (cI, 9, .inl bd)), (a3, .inl (cI, 9, .inl yr)), (h3, .inr (3, [.ref b1, .int ln, .int lg])), (b1, .inl (cI, 60, .inl cl))] [0, 1, 2, 3, 4] rfl rfl (Eq.refl [h0, h4t, a1t, a2t, a3t]) rfl 0 rfl rfl rfl _ rfl (Nat.le_of_ble_eq_true rfl) ⟨Nat.zero_le _, Nat.zero_le _⟩ dX0_play_61 ?_
          generalize hu61 : (F_X0_canDo lb_22 pnt_22 u5.2.1 u5.2.2.1 nwt_22 kdt_22 bdt_22 yrt_22 u46 u58) = u61 at hf ⊢
          refine z_if_ne (tgt := 73) C dX0_play_64 (by decide) (fun c64 => ?_) (fun c64 => ?_)
          · rw [if_neg c64] at hf
            have b64 := c64
            rw [← hu61] at c64
            refine z_iinc (v := (x5_22 + (1 : Int32))) C [(0, .ref h0), (1, .ref h4), (2, .ref h3), (3, .int ti), (4, .int tn), (5, .int (x5_22 + (1 : Int32)))] dX0_play_73 5 rfl (by rfl) (by decide) [1, 2, 3, 4, 5, 0] rfl ?_
            refine z_goto (tgt := 22) C dX0_play_76 (by decide) ?_
            exact ih22 (j + 1) (x5_22 + (1 : Int32)) fw_22 u61.2.1 u61.2.2.1 u61.2.2.2.1 u61.2.2.2.2.1 u61.2.2.2.2.2.1 u61.2.2.2.2.2.2 (by subst hu61 hu58 hu46 hu5; exact (by rw [e5]; exact nI_1 j)) (by subst hu61 hu58 hu46 hu5; exact (by have := z_jlt e5 (by omega) (z_tiN hTN (by omega)) c26; omega)) (by omega) hf
          · rw [if_pos c64] at hf
            have b64 := c64
            rw [← hu61] at c64
            refine z_aload_n C dX0_play_67 rfl 0 rfl ?_
            refine z_iload C dX0_play_68 5 rfl ?_
            refine z_put (T := TX0) (ty := .int) C [(h0, .inr (0, [.ref h4t, .int x5_22, .int u61.2.1])), (h4t, .inr (4, [.ref a1t, .ref a2t, .ref a3t, .int u61.2.2.1, .int u5.2.1, .int u5.2.2.1, .int u61.2.2.2.1])), (a1t, .inl (cI, 9, .inl u61.2.2.2.2.1)), (a2t, .inl (cI, 9, .inl u61.2.2.2.2.2.1)), (a3t, .inl (cI, 9, .inl u61.2.2.2.2.2.2)), (h4, .inr (4, [.ref a1, .ref a2, .ref a3, .int pn, .int sl, .int dr, .int nw])), (a1, .inl (cI, 9, .inl kd)), (a2, .inl (cI, 9, .inl bd)), (a3, .inl (cI, 9, .inl yr)), (h3, .inr (3, [.ref b1, .int ln, .int lg])), (b1, .inl (cI, 60, .inl cl))] i_X0_play_0 tyX0 tyX0_ok nmX0 0 rfl rfl 1 (by decide) m_X0_play_2 rfl rfl (by decide +kernel) rfl rfl (Nat.le_of_ble_eq_true rfl) dX0_play_70 rfl ?_
            refine z_iinc (v := (x5_22 + (1 : Int32))) C [(0, .ref h0), (1, .ref h4), (2, .ref h3), (3, .int ti), (4, .int tn), (5, .int (x5_22 + (1 : Int32)))] dX0_play_73 5 rfl (by rfl) (by decide) [1, 2, 3, 4, 5, 0] rfl ?_
            refine z_goto (tgt := 22) C dX0_play_76 (by decide) ?_
            exact ih22 (j + 1) (x5_22 + (1 : Int32)) x5_22 u61.2.1 u61.2.2.1 u61.2.2.2.1 u61.2.2.2.2.1 u61.2.2.2.2.2.1 u61.2.2.2.2.2.2 (by subst hu61 hu58 hu46 hu5; exact (by rw [e5]; exact nI_1 j)) (by subst hu61 hu58 hu46 hu5; exact (by have := z_jlt e5 (by omega) (z_tiN hTN (by omega)) c26; omega)) (by omega) hf
  exact L22 21 0 (0 : Int32) (-9 : Int32) (0 : Int32) u5.1 u5.2.2.2.1 u5.2.2.2.2.1 u5.2.2.2.2.2.1 u5.2.2.2.2.2.2 (by subst hu5; exact nI_0.symm) (by subst hu5; exact (Nat.zero_le _)) (by omega) hf
