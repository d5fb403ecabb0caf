-- X5_well
theorem i_X5_well_5 : ∀ w ∈ u_ws RX5 TX5 7, w ∈ wsX5_well := by decide +kernel
theorem m_X5_well_1 : Cond.fieldLink RX5 46 "WishPins" "latestFault" "I" ∈ wsX5_well := List.mem_of_getElem? (i := 1) rfl
theorem m_X5_well_2 : Cond.fieldLink RX5 41 "WishPins" "sheets" "[LWishPins$Sheet;" ∈ wsX5_well := List.mem_of_getElem? (i := 2) rfl
theorem m_X5_well_3 : Cond.fieldLink RX5 12 "WishPins" "lying" "LWishPins$Well;" ∈ wsX5_well := List.mem_of_getElem? (i := 3) rfl
theorem m_X5_well_4 : Cond.fieldLink RX5 21 "WishPins" "readings" "LWishPins$Readings;" ∈ wsX5_well := List.mem_of_getElem? (i := 4) rfl
theorem i_X5_well_4 : ∀ w ∈ u_ws RX4 TX4 7, w ∈ wsX5_well := by decide +kernel
theorem m_X5_well_5 : Cond.fieldLink RX5 79 "WishPins$Well" "pins" "I" ∈ wsX5_well := List.mem_of_getElem? (i := 5) rfl
def F_X5_well (pn : Int32) (sl : Int32) (dr : Int32) (nw : Int32) (kd : Nat → Int32) (bd : Nat → Int32) (yr : Nat → Int32) (rc : Int32) (ln : Int32) (lg : Int32) (cl : Nat → Int32) (sk : Int32) (la : Int32) (ti : Int32) (tn : Int32) : Int32 × Int32 × Int32 × Int32 × Int32 × Int32 × (Nat → Int32) × (Nat → Int32) × (Nat → Int32) × Int32 :=
  (if (F_X5_isSheet sk) = 0 then ((-1 : Int32), (0 : Int32), pn, sl, dr, nw, kd, bd, yr, rc) else (if (F_X5_isLane la) = 0 then ((-2 : Int32), (0 : Int32), pn, sl, dr, nw, kd, bd, yr, rc) else (if (F_X3_faultAs ln la) = 0 then (if 0 ≤ tn then (if (F_X3_hasCells lg ti tn) = 0 then ((F_X5_failed (3 : Int32)).1, (F_X5_failed (3 : Int32)).2, pn, sl, dr, nw, kd, bd, yr, rc) else (if (F_X5_firstFault lg cl ti tn) = (-9 : Int32) then ((F_X4_fill kd bd yr lg cl ti tn).1, (0 : Int32), (F_X4_fill kd bd yr lg cl ti tn).1, (F_X4_fill kd bd yr lg cl ti tn).2.1, (F_X4_fill kd bd yr lg cl ti tn).2.2.1, (F_X4_fill kd bd yr lg cl ti tn).2.2.2.1, (F_X4_fill kd bd yr lg cl ti tn).2.2.2.2.1, (F_X4_fill kd bd yr lg cl ti tn).2.2.2.2.2.1, (F_X4_fill kd bd yr lg cl ti tn).2.2.2.2.2.2, F_X2_clear) else (((-100 : Int32) - (F_X5_firstFault lg cl ti tn)), (0 : Int32), pn, sl, dr, nw, kd, bd, yr, rc))) else ((F_X5_failed (4 : Int32)).1, (F_X5_failed (4 : Int32)).2, pn, sl, dr, nw, kd, bd, yr, rc)) else ((F_X5_failed (F_X3_faultAs ln la)).1, (F_X5_failed (F_X3_faultAs ln la)).2, pn, sl, dr, nw, kd, bd, yr, rc))))
set_option maxHeartbeats 4000000 in
set_option maxRecDepth 100000 in
theorem c_X5_well (l : Launch) (D : va_G) (cI cO : ClassId) (h5 : Nat) (ash : Nat) (tr : Int32) (ft : Int32) (hq : Nat → Option Nat) (h4 : Nat) (a1 : Nat) (a2 : Nat) (a3 : Nat) (pn : Int32) (sl : Int32) (dr : Int32) (nw : Int32) (kd : Nat → Int32) (bd : Nat → Int32) (yr : Nat → Int32) (h2 : Nat) (e1 : Nat) (e2 : Nat) (rc : Int32) (h0 : Nat) (h1 : Nat) (h3 : Nat) (b1 : Nat) (ln : Int32) (lg : Int32) (cl : Nat → Int32) (sk : Int32) (la : Int32) (ti : Int32) (tn : Int32) (hsq : ¬ F_X5_isSheet sk = 0 → hq sk.toNatClampNeg = some h3) (hlg : lg ≤ 60) : zW l yX5_well wsX5_well ({ frames := 3, cells := 0, slots := 0, locals := 68 } : Room) D cI cO [.ref h5, .int sk, .int la, .int ti, .int tn] [(h5, .inr (5, [.ref h4, .ref h2, .ref h0, .ref h1, .ref ash, .int tr, .int ft])), (ash, .inl (cO, 4, .inr (.inr (.inr (.inr hq))))), (h4, .inr (4, [.ref a1, .ref a2, .ref a3, .int pn, .int sl, .int dr, .int nw])), (a1, .inl (cI, 9, .inl kd)), (a2, .inl (cI, 9, .inl bd)), (a3, .inl (cI, 9, .inl yr)), (h2, .inr (2, [.ref e1, .ref e2, .int rc])), (h3, .inr (3, [.ref b1, .int ln, .int lg])), (b1, .inl (cI, 60, .inl cl))] [(h5, .inr (5, [.ref h4, .ref h2, .ref h0, .ref h1, .ref ash, .int tr, .int ((F_X5_well pn sl dr nw kd bd yr rc ln lg cl sk la ti tn).2.1)])), (ash, .inl (cO, 4, .inr (.inr (.inr (.inr hq))))), (h4, .inr (4, [.ref a1, .ref a2, .ref a3, .int ((F_X5_well pn sl dr nw kd bd yr rc ln lg cl sk la ti tn).2.2.1), .int ((F_X5_well pn sl dr nw kd bd yr rc ln lg cl sk la ti tn).2.2.2.1), .int ((F_X5_well pn sl dr nw kd bd yr rc ln lg cl sk la ti tn).2.2.2.2.1), .int ((F_X5_well pn sl dr nw kd bd yr rc ln lg cl sk la ti tn).2.2.2.2.2.1)])), (a1, .inl (cI, 9, .inl ((F_X5_well pn sl dr nw kd bd yr rc ln lg cl sk la ti tn).2.2.2.2.2.2.1))), (a2, .inl (cI, 9, .inl ((F_X5_well pn sl dr nw kd bd yr rc ln lg cl sk la ti tn).2.2.2.2.2.2.2.1))), (a3, .inl (cI, 9, .inl ((F_X5_well pn sl dr nw kd bd yr rc ln lg cl sk la ti tn).2.2.2.2.2.2.2.2.1))), (h2, .inr (2, [.ref e1, .ref e2, .int ((F_X5_well pn sl dr nw kd bd yr rc ln lg cl sk la ti tn).2.2.2.2.2.2.2.2.2)])), (h3, .inr (3, [.ref b1, .int ln, .int lg])), (b1, .inl (cI, 60, .inl cl))] (some (.int ((F_X5_well pn sl dr nw kd bd yr rc ln lg cl sk la ti tn).1))) := by
  refine zW_of (nL := 8) (cc := cX5_well) (ret := some .int) (lv := [(0, .ref h5), (1, .int sk), (2, .int la), (3, .int ti), (4, .int tn)]) (by decide +kernel) rfl (Nat.le_of_ble_eq_true rfl) rfl (fun p e s m args below meth c C hr hlk => ?_)
  have hf := F_X5_well.eq_1 pn sl dr nw kd bd yr rc ln lg cl sk la ti tn
  refine z_aload_n C dX5_well_0 rfl 0 rfl ?_
  refine z_iconst (v := (0 : Int32)) C dX5_well_1 (by decide) ?_
  refine z_put (T := TX5) (ty := .int) C [(h5, .inr (5, [.ref h4, .ref h2, .ref h0, .ref h1, .ref ash, .int tr, .int (0 : Int32)])), (ash, .inl (cO, 4, .inr (.inr (.inr (.inr hq))))), (h4, .inr (4, [.ref a1, .ref a2, .ref a3, .int pn, .int sl, .int dr, .int nw])), (a1, .inl (cI, 9, .inl kd)), (a2, .inl (cI, 9, .inl bd)), (a3, .inl (cI, 9, .inl yr)), (h2, .inr (2, [.ref e1, .ref e2, .int rc])), (h3, .inr (3, [.ref b1, .int ln, .int lg])), (b1, .inl (cI, 60, .inl cl))] i_X5_well_5 tyX5 tyX5_ok nmX5 0 rfl rfl 6 (by decide) m_X5_well_1 rfl rfl (by decide +kernel) rfl rfl (Nat.le_of_ble_eq_true rfl) dX5_well_2 rfl ?_
  refine z_iload_n C dX5_well_5 rfl 1 rfl ?_
  refine z_cSR (As := [.int sk]) C (c_X5_isSheet l D cI cO sk) (va_cwS 1 C.2.2.2.2.1 gX5_well_X5_isSheet rfl rfl rfl hdS_X5_isSheet ⟨Nat.le_of_ble_eq_true rfl, Nat.le_of_ble_eq_true rfl⟩) [] rfl rfl rfl _ rfl (Nat.le_of_ble_eq_true rfl) ⟨Nat.zero_le _, Nat.zero_le _⟩ dX5_well_6 ?_
  generalize hu6 : (F_X5_isSheet sk) = u6 at hf ⊢
  refine z_if_ne (tgt := 14) C dX5_well_9 (by decide) (fun c9 => ?_) (fun c9 => ?_)
  · rw [if_neg c9] at hf
    have b9 := c9
    rw [← hu6] at c9
    refine z_iload_n C dX5_well_14 rfl 2 rfl ?_
    refine z_cSR (As := [.int la]) C (c_X5_isLane l D cI cO la) (va_cwS 1 C.2.2.2.2.1 gX5_well_X5_isLane rfl rfl rfl hdS_X5_isLane ⟨Nat.le_of_ble_eq_true rfl, Nat.le_of_ble_eq_true rfl⟩) [] rfl rfl rfl _ rfl (Nat.le_of_ble_eq_true rfl) ⟨Nat.zero_le _, Nat.zero_le _⟩ dX5_well_15 ?_
    generalize hu15 : (F_X5_isLane la) = u15 at hf ⊢
    refine z_if_ne (tgt := 24) C dX5_well_18 (by decide) (fun c18 => ?_) (fun c18 => ?_)
    · rw [if_neg c18] at hf
      have b18 := c18
      rw [← hu15] at c18
      refine z_aload_n C dX5_well_24 rfl 0 rfl ?_
      refine z_get (T := TX5) (v := .ref ash) C i_X5_well_5 0 rfl rfl 4 (by decide) m_X5_well_2 rfl rfl dX5_well_25 ?_
      refine z_iload_n C dX5_well_28 rfl 1 rfl ?_
      refine z_aldq (b := h3) C 1 rfl (by subst hu15 hu6; exact (isSheet_ix c9)) (by subst hu15 hu6; exact (hsq c9)) dX5_well_29 ?_
      refine z_astore C [(0, .ref h5), (1, .int sk), (2, .int la), (3, .int ti), (4, .int tn), (5, .ref h3)] dX5_well_30 (by decide) [1, 2, 3, 4, 5, 0] rfl ?_
      refine z_aload C dX5_well_32 5 rfl ?_
      refine z_iload_n C dX5_well_34 rfl 2 rfl ?_
      refine z_cVR (As := [.int la]) C (c_X3_faultAs l D cI cO h3 b1 ln lg la) (cwV 1 C.2.2.2.2.1 gX5_well_X3_faultAs rfl rfl rfl hdV_X3_faultAs ⟨Nat.le_of_ble_eq_true rfl, Nat.le_of_ble_eq_true rfl⟩) [7] rfl rfl 7 rfl rfl rfl _ rfl (Nat.le_of_ble_eq_true rfl) ⟨Nat.zero_le _, Nat.zero_le _⟩ dX5_well_35 ?_
      generalize hu35 : (F_X3_faultAs ln la) = u35 at hf ⊢
      refine z_istore C [(0, .ref h5), (1, .int sk), (2, .int la), (3, .int ti), (4, .int tn), (5, .ref h3), (6, .int u35)] dX5_well_38 (by decide) [1, 2, 3, 4, 5, 6, 0] rfl ?_
      refine z_iload C dX5_well_40 6 rfl ?_
      refine z_if_ne (tgt := 53) C dX5_well_42 (by decide) (fun c42 => ?_) (fun c42 => ?_)
      · rw [if_neg c42] at hf
        have b42 := c42
        rw [← hu35] at c42
        refine z_iload C dX5_well_53 6 rfl ?_
        refine z_if_ne (tgt := 72) C dX5_well_55 (by decide) (fun _ => ?_) (fun h9 => absurd h9 b42)
        refine z_iload C dX5_well_72 6 rfl ?_
        refine z_if_eq (tgt := 84) C dX5_well_74 (by decide) (fun h9 => absurd h9 b42) (fun _ => ?_)
        refine z_aload_n C dX5_well_77 rfl 0 rfl ?_
        refine z_iload C dX5_well_78 6 rfl ?_
        refine z_cVW (As := [.int u35]) C (c_X5_failed l D cI cO h5 ash tr (0 : Int32) h4 h2 h0 h1 u35) (cwV 1 C.2.2.2.2.1 gX5_well_X5_failed rfl rfl rfl hdV_X5_failed ⟨Nat.le_of_ble_eq_true rfl, Nat.le_of_ble_eq_true rfl⟩) [(h5, .inr (5, [.ref h4, .ref h2, .ref h0, .ref h1, .ref ash, .int tr, .int ((F_X5_failed u35).2)])), (ash, .inl (cO, 4, .inr (.inr (.inr (.inr hq))))), (h4, .inr (4, [.ref a1, .ref a2, .ref a3, .int pn, .int sl, .int dr, .int nw])), (a1, .inl (cI, 9, .inl kd)), (a2, .inl (cI, 9, .inl bd)), (a3, .inl (cI, 9, .inl yr)), (h2, .inr (2, [.ref e1, .ref e2, .int rc])), (h3, .inr (3, [.ref b1, .int ln, .int lg])), (b1, .inl (cI, 60, .inl cl))] [0] rfl rfl (Eq.refl [h5]) rfl 0 rfl rfl rfl _ rfl (Nat.le_of_ble_eq_true rfl) ⟨Nat.zero_le _, Nat.zero_le _⟩ dX5_well_80 ?_
        generalize hu80 : (F_X5_failed u35) = u80 at hf ⊢
        exact z_iretW C hr hlk (by rw [hf]) (by rw [hf]) dX5_well_83
      · rw [if_pos c42] at hf
        have b42 := c42
        rw [← hu35] at c42
        refine z_iload C dX5_well_45 4 rfl ?_
        refine z_if_ge (tgt := 53) C dX5_well_47 (by decide) (fun c47 => ?_) (fun c47 => ?_)
        · rw [if_pos c47] at hf
          refine z_iload C dX5_well_53 6 rfl ?_
          refine z_if_ne (tgt := 72) C dX5_well_55 (by decide) (fun h9 => absurd b42 h9) (fun _ => ?_)
          refine z_aload C dX5_well_58 5 rfl ?_
          refine z_iload_n C dX5_well_60 rfl 3 rfl ?_
          refine z_iload C dX5_well_61 4 rfl ?_
          refine z_cVR (As := [.int ti, .int tn]) C (c_X3_hasCells l D cI cO h3 b1 ln lg ti tn) (cwV 2 C.2.2.2.2.1 gX5_well_X3_hasCells rfl rfl rfl hdV_X3_hasCells ⟨Nat.le_of_ble_eq_true rfl, Nat.le_of_ble_eq_true rfl⟩) [7] rfl rfl 7 rfl rfl rfl _ rfl (Nat.le_of_ble_eq_true rfl) ⟨Nat.zero_le _, Nat.zero_le _⟩ dX5_well_63 ?_
          generalize hu63 : (F_X3_hasCells lg ti tn) = u63 at hf ⊢
          refine z_if_ne (tgt := 72) C dX5_well_66 (by decide) (fun c66 => ?_) (fun c66 => ?_)
          · rw [if_neg c66] at hf
            have b66 := c66
            rw [← hu63] at c66
            refine z_iload C dX5_well_72 6 rfl ?_
            refine z_if_eq (tgt := 84) C dX5_well_74 (by decide) (fun _ => ?_) (fun h9 => absurd b42 h9)
            obtain ⟨I0, N0, hTI, hTN, hIN, -⟩ := hasCells_in hlg c66
            refine z_aload C dX5_well_84 5 rfl ?_
            refine z_iload_n C dX5_well_86 rfl 3 rfl ?_
            refine z_iload C dX5_well_87 4 rfl ?_
            refine z_cSR (As := [.ref h3, .int ti, .int tn]) C (c_X5_firstFault l D cI cO h3 b1 ln lg cl ti tn N0 (by subst hu63 hu35 hu15 hu6; exact hlg) (by subst hu63 hu35 hu15 hu6; exact hTN) (by omega)) (va_cwS 3 C.2.2.2.2.1 gX5_well_X5_firstFault rfl rfl rfl hdS_X5_firstFault ⟨Nat.le_of_ble_eq_true rfl, Nat.le_of_ble_eq_true rfl⟩) [7, 8] rfl rfl rfl _ rfl (Nat.le_of_ble_eq_true rfl) ⟨Nat.zero_le _, Nat.zero_le _⟩ dX5_well_89 ?_
            generalize hu89 : (F_X5_firstFault lg cl ti tn) = u89 at hf ⊢
            refine z_istore C [(0, .ref h5), (1, .int sk), (2, .int la), (3, .int ti), (4, .int tn), (5, .ref h3), (6, .int u35), (7, .int u89)] dX5_well_92 (by decide) [1, 2, 3, 4, 5, 6, 7, 0] rfl ?_
            refine z_iload C dX5_well_94 7 rfl ?_
            refine z_bipush (v := (-9 : Int32)) C dX5_well_96 (by decide) ?_
            refine z_icmp_eq (tgt := 107) C dX5_well_98 (by decide) (fun c98 => ?_) (fun c98 => ?_)
            · rw [if_pos c98] at hf
              have b98 := c98
              rw [← hu89] at c98
              refine z_aload_n C dX5_well_107 rfl 0 rfl ?_
              refine z_get (T := TX5) (v := .ref h4) C i_X5_well_5 0 rfl rfl 0 (by decide) m_X5_well_3 rfl rfl dX5_well_108 ?_
              refine z_aload C dX5_well_111 5 rfl ?_
              refine z_iload_n C dX5_well_113 rfl 3 rfl ?_
              refine z_iload C dX5_well_114 4 rfl ?_
              refine z_cVW (As := [.ref h3, .int ti, .int tn]) C (c_X4_fill l D cI cO h4 a1 a2 a3 pn sl dr nw kd bd yr h3 b1 ln lg cl ti tn I0 N0 (by subst hu89 hu63 hu35 hu15 hu6; exact hlg) (by subst hu89 hu63 hu35 hu15 hu6; exact hTI) (by subst hu89 hu63 hu35 hu15 hu6; exact hTN) (by subst hu89 hu63 hu35 hu15 hu6; exact hIN)) (cwV 3 C.2.2.2.2.1 gX5_well_X4_fill rfl rfl rfl hdV_X4_fill ⟨Nat.le_of_ble_eq_true rfl, Nat.le_of_ble_eq_true rfl⟩) [(h5, .inr (5, [.ref h4, .ref h2, .ref h0, .ref h1, .ref ash, .int tr, .int (0 : Int32)])), (ash, .inl (cO, 4, .inr (.inr (.inr (.inr hq))))), (h4, .inr (4, [.ref a1, .ref a2, .ref a3, .int ((F_X4_fill kd bd yr lg cl ti tn).1), .int ((F_X4_fill kd bd yr lg cl ti tn).2.1), .int ((F_X4_fill kd bd yr lg cl ti tn).2.2.1), .int ((F_X4_fill kd bd yr lg cl ti tn).2.2.2.1)])), (a1, .inl (cI, 9, .inl ((F_X4_fill kd bd yr lg cl ti tn).2.2.2.2.1))), (a2, .inl (cI, 9, .inl ((F_X4_fill kd bd yr lg cl ti tn).2.2.2.2.2.1))), (a3, .inl (cI, 9, .inl ((F_X4_fill kd bd yr lg cl ti tn).2.2.2.2.2.2))), (h2, .inr (2, [.ref e1, .ref e2, .int rc])), (h3, .inr (3, [.ref b1, .int ln, .int lg])), (b1, .inl (cI, 60, .inl cl))] [2, 3, 4, 5, 7, 8] rfl rfl (Eq.refl [h4, a1, a2, a3, h3, b1]) rfl 2 rfl rfl rfl _ rfl (Nat.le_of_ble_eq_true rfl) ⟨Nat.zero_le _, Nat.zero_le _⟩ dX5_well_116 ?_
              generalize hu116 : (F_X4_fill kd bd yr lg cl ti tn) = u116 at hf ⊢
              refine z_aload_n C dX5_well_119 rfl 0 rfl ?_
              refine z_get (T := TX5) (v := .ref h2) C i_X5_well_5 0 rfl rfl 1 (by decide) m_X5_well_4 rfl rfl dX5_well_120 ?_
              refine z_cVW (As := []) C (c_X2_clear l D cI cO h2 e1 e2 rc) (cwV 0 C.2.2.2.2.1 gX5_well_X2_clear rfl rfl rfl hdV_X2_clear ⟨Nat.le_of_ble_eq_true rfl, Nat.le_of_ble_eq_true rfl⟩) [(h5, .inr (5, [.ref h4, .ref h2, .ref h0, .ref h1, .ref ash, .int tr, .int (0 : Int32)])), (ash, .inl (cO, 4, .inr (.inr (.inr (.inr hq))))), (h4, .inr (4, [.ref a1, .ref a2, .ref a3, .int u116.1, .int u116.2.1, .int u116.2.2.1, .int u116.2.2.2.1])), (a1, .inl (cI, 9, .inl u116.2.2.2.2.1)), (a2, .inl (cI, 9, .inl u116.2.2.2.2.2.1)), (a3, .inl (cI, 9, .inl u116.2.2.2.2.2.2)), (h2, .inr (2, [.ref e1, .ref e2, .int F_X2_clear])), (h3, .inr (3, [.ref b1, .int ln, .int lg])), (b1, .inl (cI, 60, .inl cl))] [6] rfl rfl (Eq.refl [h2]) rfl 6 rfl rfl rfl _ rfl (Nat.le_of_ble_eq_true rfl) ⟨Nat.zero_le _, Nat.zero_le _⟩ dX5_well_123 ?_
              generalize hu123 : F_X2_clear = u123 at hf ⊢
              refine z_aload_n C dX5_well_126 rfl 0 rfl ?_
              refine z_get (T := TX5) (v := .ref h4) C i_X5_well_5 0 rfl rfl 0 (by decide) m_X5_well_3 rfl rfl dX5_well_127 ?_
              refine z_get (T := TX4) (v := .int u116.1) C i_X5_well_4 2 rfl rfl 3 (by decide) m_X5_well_5 rfl rfl dX5_well_130 ?_
              exact z_iretW C hr hlk (by rw [hf]) (by rw [hf]) dX5_well_133
            · rw [if_neg c98] at hf
              have b98 := c98
              rw [← hu89] at c98
              refine z_bipush (v := (-100 : Int32)) C dX5_well_101 (by decide) ?_
              refine z_iload C dX5_well_103 7 rfl ?_
              refine z_isub C dX5_well_105 ?_
              exact z_iretW C hr hlk (by rw [hf]) (by rw [hf]) dX5_well_106
          · rw [if_pos c66] at hf
            have b66 := c66
            rw [← hu63] at c66
            refine z_iconst (v := (3 : Int32)) C dX5_well_69 (by decide) ?_
            refine z_istore C [(0, .ref h5), (1, .int sk), (2, .int la), (3, .int ti), (4, .int tn), (5, .ref h3), (6, .int (3 : Int32))] dX5_well_70 (by decide) [1, 2, 3, 4, 5, 6, 0] rfl ?_
            refine z_iload C dX5_well_72 6 rfl ?_
            refine z_if_eq (tgt := 84) C dX5_well_74 (by decide) (fun h9 => absurd h9 (by decide)) (fun _ => ?_)
            refine z_aload_n C dX5_well_77 rfl 0 rfl ?_
            refine z_iload C dX5_well_78 6 rfl ?_
            refine z_cVW (As := [.int (3 : Int32)]) C (c_X5_failed l D cI cO h5 ash tr (0 : Int32) h4 h2 h0 h1 (3 : Int32)) (cwV 1 C.2.2.2.2.1 gX5_well_X5_failed rfl rfl rfl hdV_X5_failed ⟨Nat.le_of_ble_eq_true rfl, Nat.le_of_ble_eq_true rfl⟩) [(h5, .inr (5, [.ref h4, .ref h2, .ref h0, .ref h1, .ref ash, .int tr, .int ((F_X5_failed (3 : Int32)).2)])), (ash, .inl (cO, 4, .inr (.inr (.inr (.inr hq))))), (h4, .inr (4, [.ref a1, .ref a2, .ref a3, .int pn, .int sl, .int dr, .int nw])), (a1, .inl (cI, 9, .inl kd)), (a2, .inl (cI, 9, .inl bd)), (a3, .inl (cI, 9, .inl yr)), (h2, .inr (2, [.ref e1, .ref e2, .int rc])), (h3, .inr (3, [.ref b1, .int ln, .int lg])), (b1, .inl (cI, 60, .inl cl))] [0] rfl rfl (Eq.refl [h5]) rfl 0 rfl rfl rfl _ rfl (Nat.le_of_ble_eq_true rfl) ⟨Nat.zero_le _, Nat.zero_le _⟩ dX5_well_80 ?_
            generalize hu80 : (F_X5_failed (3 : Int32)) = u80 at hf ⊢
            exact z_iretW C hr hlk (by rw [hf]) (by rw [hf]) dX5_well_83
        · rw [if_neg c47] at hf
          refine z_iconst (v := (4 : Int32)) C dX5_well_50 (by decide) ?_
          refine z_istore C [(0, .ref h5), (1, .int sk), (2, .int la), (3, .int ti), (4, .int tn), (5, .ref h3), (6, .int (4 : Int32))] dX5_well_51 (by decide) [1, 2, 3, 4, 5, 6, 0] rfl ?_
          refine z_iload C dX5_well_53 6 rfl ?_
          refine z_if_ne (tgt := 72) C dX5_well_55 (by decide) (fun _ => ?_) (fun h9 => absurd h9 (by decide))
          refine z_iload C dX5_well_72 6 rfl ?_
          refine z_if_eq (tgt := 84) C dX5_well_74 (by decide) (fun h9 => absurd h9 (by decide)) (fun _ => ?_)
          refine z_aload_n C dX5_well_77 rfl 0 rfl ?_
          refine z_iload C dX5_well_78 6 rfl ?_
          refine z_cVW (As := [.int (4 : Int32)]) C (c_X5_failed l D cI cO h5 ash tr (0 : Int32) h4 h2 h0 h1 (4 : Int32)) (cwV 1 C.2.2.2.2.1 gX5_well_X5_failed rfl rfl rfl hdV_X5_failed ⟨Nat.le_of_ble_eq_true rfl, Nat.le_of_ble_eq_true rfl⟩) [(h5, .inr (5, [.ref h4, .ref h2, .ref h0, .ref h1, .ref ash, .int tr, .int ((F_X5_failed (4 : Int32)).2)])), (ash, .inl (cO, 4, .inr (.inr (.inr (.inr hq))))), (h4, .inr (4, [.ref a1, .ref a2, .ref a3, .int pn, .int sl, .int dr, .int nw])), (a1, .inl (cI, 9, .inl kd)), (a2, .inl (cI, 9, .inl bd)), (a3, .inl (cI, 9, .inl yr)), (h2, .inr (2, [.ref e1, .ref e2, .int rc])), (h3, .inr (3, [.ref b1, .int ln, .int lg])), (b1, .inl (cI, 60, .inl cl))] [0] rfl rfl (Eq.refl [h5]) rfl 0 rfl rfl rfl _ rfl (Nat.le_of_ble_eq_true rfl) ⟨Nat.zero_le _, Nat.zero_le _⟩ dX5_well_80 ?_
          generalize hu80 : (F_X5_failed (4 : Int32)) = u80 at hf ⊢
          exact z_iretW C hr hlk (by rw [hf]) (by rw [hf]) dX5_well_83
    · rw [if_pos c18] at hf
      have b18 := c18
      rw [← hu15] at c18
      refine z_bipush (v := (-2 : Int32)) C dX5_well_21 (by decide) ?_
      exact z_iretW C hr hlk (by rw [hf]) (by rw [hf]) dX5_well_23
  · rw [if_pos c9] at hf
    have b9 := c9
    rw [← hu6] at c9
    refine z_iconst (v := (-1 : Int32)) C dX5_well_12 (by decide) ?_
    exact z_iretW C hr hlk (by rw [hf]) (by rw [hf]) dX5_well_13
def NP9 (x : Int32) : Prop := ∃ n : Nat, n ≤ 9 ∧ x = nI n
theorem addTop_np {pn nw : Int32} {kd bd yr : Nat → Int32} {k b : Int32} (h : NP9 pn) : NP9 (F_X4_addTop pn nw kd bd yr k b).2.1 := by
  obtain ⟨n, h1, h2⟩ := h
  rw [F_X4_addTop]
  split
  · exact ⟨n, h1, h2⟩
  · split
    · rename_i c
      have := (zl_lt (z := 9) (by decide)).mp c
      rw [h2, nI_toInt (by omega)] at this
      exact ⟨n + 1, by omega, by rw [h2]; exact nI_1 n⟩
    · exact ⟨n, h1, h2⟩
theorem dropTop_np {pn : Int32} (h : NP9 pn) : NP9 (F_X4_dropTop pn).2 := by
  obtain ⟨n, h1, h2⟩ := h
  rw [F_X4_dropTop]
  split
  · rename_i c
    have := z_jge (n := 2) h2 (by omega) (by decide) c
    exact ⟨n - 1, by omega, by rw [h2]; exact pk_sub (b := 1) (by omega)⟩
  · exact ⟨n, h1, h2⟩
theorem canDo_np {lb pnt slt drt nwt : Int32} {kdt bdt yrt : Nat → Int32} {a b : Int32} (h : NP9 pnt) : NP9 (F_X0_canDo lb pnt slt drt nwt kdt bdt yrt a b).2.2.1 := by
  rw [F_X0_canDo]
  split
  · exact dropTop_np h
  · split
    · exact h
    · split
      · exact addTop_np h
      · split <;> exact addTop_np h
theorem play_l22 {kdt bdt yrt : Nat → Int32} {pn sl dr nw : Int32} {kd bd yr : Nat → Int32} {lg : Int32} {cl : Nat → Int32} {ti tn : Int32} (K : Int32 → Int32 → Int32 → Int32 → Int32 → (Nat → Int32) → (Nat → Int32) → (Nat → Int32) → Int32 × Int32 × Int32 × Int32 × Int32 × Int32 × (Nat → Int32) × (Nat → Int32) × (Nat → Int32)) (hK : ∀ a b c d e f g h, NP9 d → NP9 (K a b c d e f g h).2.2.1) : ∀ (d : Nat) (x5 fw lb pnt nwt : Int32) (ka ba ya : Nat → Int32), NP9 pnt → NP9 (F_X0_play_l22 kdt bdt yrt pn sl dr nw kd bd yr lg cl ti tn K d x5 fw lb pnt nwt ka ba ya).2.2.1 := by
  intro d
  induction d with
  | zero => intro x5 fw lb pnt nwt ka ba ya h; rw [F_X0_play_l22]; exact hK _ _ _ _ _ _ _ _ h
  | succ d ih =>
    intro x5 fw lb pnt nwt ka ba ya h
    rw [F_X0_play_l22]
    split
    · exact hK _ _ _ _ _ _ _ _ h
    · split
      · split
        · exact ih _ _ _ _ _ _ _ _ (canDo_np h)
        · exact ih _ _ _ _ _ _ _ _ (canDo_np h)
      · exact hK _ _ _ _ _ _ _ _ h
theorem play_np (kdt bdt yrt : Nat → Int32) (pn sl dr nw : Int32) (kd bd yr : Nat → Int32) (lg : Int32) (cl : Nat → Int32) (ti tn : Int32) {np : Nat} (hpn : pn = nI np) (hnp : np ≤ 9) : ∃ n : Nat, n ≤ 9 ∧ (F_X0_play kdt bdt yrt pn sl dr nw kd bd yr lg cl ti tn).2.2.1 = nI n := by
  rw [F_X0_play]
  exact play_l22 _ (fun _ _ _ _ _ _ _ _ h => h) _ _ _ _ _ _ _ _ _ ⟨np, hnp, hpn⟩
-- X5_century
theorem i_X5_century_5 : ∀ w ∈ u_ws RX5 TX5 7, w ∈ wsX5_century := by decide +kernel
theorem m_X5_century_1 : Cond.fieldLink RX5 46 "WishPins" "latestFault" "I" ∈ wsX5_century := List.mem_of_getElem? (i := 1) rfl
theorem m_X5_century_2 : Cond.fieldLink RX5 41 "WishPins" "sheets" "[LWishPins$Sheet;" ∈ wsX5_century := List.mem_of_getElem? (i := 2) rfl
theorem m_X5_century_3 : Cond.fieldLink RX5 28 "WishPins" "future" "LWishPins$Century;" ∈ wsX5_century := List.mem_of_getElem? (i := 3) rfl
theorem m_X5_century_4 : Cond.fieldLink RX5 12 "WishPins" "lying" "LWishPins$Well;" ∈ wsX5_century := List.mem_of_getElem? (i := 4) rfl
def F_X5_century_k90 (pn : Int32) (sl : Int32) (dr : Int32) (nw : Int32) (kd : Nat → Int32) (bd : Nat → Int32) (yr : Nat → Int32) (kdt : Nat → Int32) (bdt : Nat → Int32) (yrt : Nat → Int32) (lg : Int32) (cl : Nat → Int32) (ti : Int32) (tn : Int32) (w : Int32) (x8_90 : Int32) : Int32 × Int32 × (Nat → Int32) × Int32 × Int32 × Int32 × Int32 × Int32 × Int32 × (Nat → Int32) × (Nat → Int32) :=
  ((F_X0_told (F_X0_play kdt bdt yrt pn sl dr nw kd bd yr lg cl ti tn).1 (F_X0_play kdt bdt yrt pn sl dr nw kd bd yr lg cl ti tn).2.1 (F_X0_play kdt bdt yrt pn sl dr nw kd bd yr lg cl ti tn).2.2.1 (F_X0_play kdt bdt yrt pn sl dr nw kd bd yr lg cl ti tn).2.2.2.1 (F_X0_play kdt bdt yrt pn sl dr nw kd bd yr lg cl ti tn).2.2.2.2.1 (F_X0_play kdt bdt yrt pn sl dr nw kd bd yr lg cl ti tn).2.2.2.2.2.1 (F_X0_play kdt bdt yrt pn sl dr nw kd bd yr lg cl ti tn).2.2.2.2.2.2.1 (F_X0_play kdt bdt yrt pn sl dr nw kd bd yr lg cl ti tn).2.2.2.2.2.2.2.1 (F_X0_play kdt bdt yrt pn sl dr nw kd bd yr lg cl ti tn).2.2.2.2.2.2.2.2 w), (0 : Int32), (F_X0_play kdt bdt yrt pn sl dr nw kd bd yr lg cl ti tn).2.2.2.2.2.2.2.2, (F_X0_play kdt bdt yrt pn sl dr nw kd bd yr lg cl ti tn).1, (F_X0_play kdt bdt yrt pn sl dr nw kd bd yr lg cl ti tn).2.1, (F_X0_play kdt bdt yrt pn sl dr nw kd bd yr lg cl ti tn).2.2.1, (F_X0_play kdt bdt yrt pn sl dr nw kd bd yr lg cl ti tn).2.2.2.1, (F_X0_play kdt bdt yrt pn sl dr nw kd bd yr lg cl ti tn).2.2.2.2.1, (F_X0_play kdt bdt yrt pn sl dr nw kd bd yr lg cl ti tn).2.2.2.2.2.1, (F_X0_play kdt bdt yrt pn sl dr nw kd bd yr lg cl ti tn).2.2.2.2.2.2.1, (F_X0_play kdt bdt yrt pn sl dr nw kd bd yr lg cl ti tn).2.2.2.2.2.2.2.1)
def F_X5_century_l90 (fw : Int32) (lb : Int32) (pnt : Int32) (slt : Int32) (drt : Int32) (nwt : Int32) (kdt : Nat → Int32) (bdt : Nat → Int32) (yrt : Nat → Int32) (lg : Int32) (cl : Nat → Int32) (ti : Int32) (tn : Int32) (K_ : Int32 → Int32 × Int32 × (Nat → Int32) × Int32 × Int32 × Int32 × Int32 × Int32 × Int32 × (Nat → Int32) × (Nat → Int32)) : Nat → Int32 → Int32 × Int32 × (Nat → Int32) × Int32 × Int32 × Int32 × Int32 × Int32 × Int32 × (Nat → Int32) × (Nat → Int32)
  | 0, x8_90 => K_ x8_90
  | d90 + 1, x8_90 => (if tn ≤ x8_90 then (K_ x8_90) else (if (F_X5_isAct (F_X3_at lg cl (ti + ((2 : Int32) * x8_90))) (F_X3_at lg cl ((ti + ((2 : Int32) * x8_90)) + (1 : Int32)))) = 0 then ((-2 : Int32), (0 : Int32), yrt, fw, lb, pnt, slt, drt, nwt, kdt, bdt) else (F_X5_century_l90 fw lb pnt slt drt nwt kdt bdt yrt lg cl ti tn K_ d90 (x8_90 + (1 : Int32)))))
def F_X5_century (pn : Int32) (sl : Int32) (dr : Int32) (nw : Int32) (kd : Nat → Int32) (bd : Nat → Int32) (yr : Nat → Int32) (fw : Int32) (lb : Int32) (pnt : Int32) (slt : Int32) (drt : Int32) (nwt : Int32) (kdt : Nat → Int32) (bdt : Nat → Int32) (yrt : Nat → Int32) (ln : Int32) (lg : Int32) (cl : Nat → Int32) (sk : Int32) (la : Int32) (ti : Int32) (tn : Int32) (w : Int32) : Int32 × Int32 × (Nat → Int32) × Int32 × Int32 × Int32 × Int32 × Int32 × Int32 × (Nat → Int32) × (Nat → Int32) :=
  (if (F_X5_isSheet sk) = 0 then ((-1 : Int32), (0 : Int32), yrt, fw, lb, pnt, slt, drt, nwt, kdt, bdt) else (if (F_X5_isLane la) = 0 then ((-2 : Int32), (0 : Int32), yrt, fw, lb, pnt, slt, drt, nwt, kdt, bdt) else (if tn < 0 then ((-2 : Int32), (0 : Int32), yrt, fw, lb, pnt, slt, drt, nwt, kdt, bdt) else (if (20 : Int32) < tn then ((-2 : Int32), (0 : Int32), yrt, fw, lb, pnt, slt, drt, nwt, kdt, bdt) else (if (F_X5_isToldOfCentury w) = 0 then ((-2 : Int32), (0 : Int32), yrt, fw, lb, pnt, slt, drt, nwt, kdt, bdt) else (if (F_X5_hasWell pn) = 0 then ((-3 : Int32), (0 : Int32), yrt, fw, lb, pnt, slt, drt, nwt, kdt, bdt) else (if (F_X3_faultOfCells ln lg la ti ((2 : Int32) * tn)) = 0 then (F_X5_century_l90 fw lb pnt slt drt nwt kdt bdt yrt lg cl ti tn (F_X5_century_k90 pn sl dr nw kd bd yr kdt bdt yrt lg cl ti tn w) 21 (0 : Int32)) else ((F_X5_failed (F_X3_faultOfCells ln lg la ti ((2 : Int32) * tn))).1, (F_X5_failed (F_X3_faultOfCells ln lg la ti ((2 : Int32) * tn))).2, yrt, fw, lb, pnt, slt, drt, nwt, kdt, bdt))))))))
set_option maxHeartbeats 4000000 in
set_option maxRecDepth 100000 in
theorem c_X5_century (l : Launch) (D : va_G) (cI cO : ClassId) (h5 : Nat) (ash : Nat) (tr : Int32) (ft : Int32) (hq : Nat → Option Nat) (h4 : Nat) (a1 : Nat) (a2 : Nat) (a3 : Nat) (pn : Int32) (sl : Int32) (dr : Int32) (nw : Int32) (kd : Nat → Int32) (bd : Nat → Int32) (yr : Nat → Int32) (h2 : Nat) (h0 : Nat) (fw : Int32) (lb : Int32) (h4t : Nat) (a1t : Nat) (a2t : Nat) (a3t : Nat) (pnt : Int32) (slt : Int32) (drt : Int32) (nwt : Int32) (kdt : Nat → Int32) (bdt : Nat → Int32) (yrt : Nat → Int32) (h1 : Nat) (h3 : Nat) (b1 : Nat) (ln : Int32) (lg : Int32) (cl : Nat → Int32) (sk : Int32) (la : Int32) (ti : Int32) (tn : Int32) (w : Int32) (np : Nat) (hsq : ¬ F_X5_isSheet sk = 0 → hq sk.toNatClampNeg = some h3) (hlg : lg ≤ 60) (hpn : pn = nI np) (hnp : np ≤ 9) : zW l yX5_century wsX5_century ({ frames := 4, cells := 0, slots := 0, locals := 92 } : Room) D cI cO [.ref h5, .int sk, .int la, .int ti, .int tn, .int w] [(h5, .inr (5, [.ref h4, .ref h2, .ref h0, .ref h1, .ref ash, .int tr, .int ft])), (ash, .inl (cO, 4, .inr (.inr (.inr (.inr hq))))), (h4, .inr (4, [.ref a1, .ref a2, .ref a3, .int pn, .int sl, .int dr, .int nw])), (a1, .inl (cI, 9, .inl kd)), (a2, .inl (cI, 9, .inl bd)), (a3, .inl (cI, 9, .inl yr)), (h0, .inr (0, [.ref h4t, .int fw, .int lb])), (h4t, .inr (4, [.ref a1t, .ref a2t, .ref a3t, .int pnt, .int slt, .int drt, .int nwt])), (a1t, .inl (cI, 9, .inl kdt)), (a2t, .inl (cI, 9, .inl bdt)), (a3t, .inl (cI, 9, .inl yrt)), (h3, .inr (3, [.ref b1, .int ln, .int lg])), (b1, .inl (cI, 60, .inl cl))] [(h5, .inr (5, [.ref h4, .ref h2, .ref h0, .ref h1, .ref ash, .int tr, .int ((F_X5_century pn sl dr nw kd bd yr fw lb pnt slt drt nwt kdt bdt yrt ln lg cl sk la ti tn w).2.1)])), (ash, .inl (cO, 4, .inr (.inr (.inr (.inr hq))))), (h4, .inr (4, [.ref a1, .ref a2, .ref a3, .int pn, .int sl, .int dr, .int nw])), (a1, .inl (cI, 9, .inl kd)), (a2, .inl (cI, 9, .inl bd)), (a3, .inl (cI, 9, .inl yr)), (h0, .inr (0, [.ref h4t, .int ((F_X5_century pn sl dr nw kd bd yr fw lb pnt slt drt nwt kdt bdt yrt ln lg cl sk la ti tn w).2.2.2.1), .int ((F_X5_century pn sl dr nw kd bd yr fw lb pnt slt drt nwt kdt bdt yrt ln lg cl sk la ti tn w).2.2.2.2.1)])), (h4t, .inr (4, [.ref a1t, .ref a2t, .ref a3t, .int ((F_X5_century pn sl dr nw kd bd yr fw lb pnt slt drt nwt kdt bdt yrt ln lg cl sk la ti tn w).2.2.2.2.2.1), .int ((F_X5_century pn sl dr nw kd bd yr fw lb pnt slt drt nwt kdt bdt yrt ln lg cl sk la ti tn w).2.2.2.2.2.2.1), .int ((F_X5_century pn sl dr nw kd bd yr fw lb pnt slt drt nwt kdt bdt yrt ln lg cl sk la ti tn w).2.2.2.2.2.2.2.1), .int ((F_X5_century pn sl dr nw kd bd yr fw lb pnt slt drt nwt kdt bdt yrt ln lg cl sk la ti tn w).2.2.2.2.2.2.2.2.1)])), (a1t, .inl (cI, 9, .inl ((F_X5_century pn sl dr nw kd bd yr fw lb pnt slt drt nwt kdt bdt yrt ln lg cl sk la ti tn w).2.2.2.2.2.2.2.2.2.1))), (a2t, .inl (cI, 9, .inl ((F_X5_century pn sl dr nw kd bd yr fw lb pnt slt drt nwt kdt bdt yrt ln lg cl sk la ti tn w).2.2.2.2.2.2.2.2.2.2))), (a3t, .inl (cI, 9, .inl ((F_X5_century pn sl dr nw kd bd yr fw lb pnt slt drt nwt kdt bdt yrt ln lg cl sk la ti tn w).2.2.1))), (h3, .inr (3, [.ref b1, .int ln, .int lg])), (b1, .inl (cI, 60, .inl cl))] (some (.int ((F_X5_century pn sl dr nw kd bd yr fw lb pnt slt drt nwt kdt bdt yrt ln lg cl sk la ti tn w).1))) := by
  refine zW_of (nL := 9) (cc := cX5_century) (ret := some .int) (lv := [(0, .ref h5), (1, .int sk), (2, .int la), (3, .int ti), (4, .int tn), (5, .int w)]) (by decide +kernel) rfl (Nat.le_of_ble_eq_true rfl) rfl (fun p e s m args below meth c C hr hlk => ?_)
  have hf := F_X5_century.eq_1 pn sl dr nw kd bd yr fw lb pnt slt drt nwt kdt bdt yrt ln lg cl sk la ti tn w
  refine z_aload_n C dX5_century_0 rfl 0 rfl ?_
  refine z_iconst (v := (0 : Int32)) C dX5_century_1 (by decide) ?_
  refine z_put (T := TX5) (ty := .int) C [(h5, .inr (5, [.ref h4, .ref h2, .ref h0, .ref h1, .ref ash, .int tr, .int (0 : Int32)])), (ash, .inl (cO, 4, .inr (.inr (.inr (.inr hq))))), (h4, .inr (4, [.ref a1, .ref a2, .ref a3, .int pn, .int sl, .int dr, .int nw])), (a1, .inl (cI, 9, .inl kd)), (a2, .inl (cI, 9, .inl bd)), (a3, .inl (cI, 9, .inl yr)), (h0, .inr (0, [.ref h4t, .int fw, .int lb])), (h4t, .inr (4, [.ref a1t, .ref a2t, .ref a3t, .int pnt, .int slt, .int drt, .int nwt])), (a1t, .inl (cI, 9, .inl kdt)), (a2t, .inl (cI, 9, .inl bdt)), (a3t, .inl (cI, 9, .inl yrt)), (h3, .inr (3, [.ref b1, .int ln, .int lg])), (b1, .inl (cI, 60, .inl cl))] i_X5_century_5 tyX5 tyX5_ok nmX5 0 rfl rfl 6 (by decide) m_X5_century_1 rfl rfl (by decide +kernel) rfl rfl (Nat.le_of_ble_eq_true rfl) dX5_century_2 rfl ?_
  refine z_iload_n C dX5_century_5 rfl 1 rfl ?_
  refine z_cSR (As := [.int sk]) C (c_X5_isSheet l D cI cO sk) (va_cwS 1 C.2.2.2.2.1 gX5_century_X5_isSheet rfl rfl rfl hdS_X5_isSheet ⟨Nat.le_of_ble_eq_true rfl, Nat.le_of_ble_eq_true rfl⟩) [] rfl rfl rfl _ rfl (Nat.le_of_ble_eq_true rfl) ⟨Nat.zero_le _, Nat.zero_le _⟩ dX5_century_6 ?_
  generalize hu6 : (F_X5_isSheet sk) = u6 at hf ⊢
  refine z_if_ne (tgt := 14) C dX5_century_9 (by decide) (fun c9 => ?_) (fun c9 => ?_)
  · rw [if_neg c9] at hf
    have b9 := c9
    rw [← hu6] at c9
    refine z_iload_n C dX5_century_14 rfl 2 rfl ?_
    refine z_cSR (As := [.int la]) C (c_X5_isLane l D cI cO la) (va_cwS 1 C.2.2.2.2.1 gX5_century_X5_isLane rfl rfl rfl hdS_X5_isLane ⟨Nat.le_of_ble_eq_true rfl, Nat.le_of_ble_eq_true rfl⟩) [] rfl rfl rfl _ rfl (Nat.le_of_ble_eq_true rfl) ⟨Nat.zero_le _, Nat.zero_le _⟩ dX5_century_15 ?_
    generalize hu15 : (F_X5_isLane la) = u15 at hf ⊢
    refine z_if_eq (tgt := 41) C dX5_century_18 (by decide) (fun c18 => ?_) (fun c18 => ?_)
    · rw [if_pos c18] at hf
      have b18 := c18
      rw [← hu15] at c18
      refine z_bipush (v := (-2 : Int32)) C dX5_century_41 (by decide) ?_
      exact z_iretW C hr hlk (by rw [hf]) (by rw [hf]) dX5_century_43
    · rw [if_neg c18] at hf
      have b18 := c18
      rw [← hu15] at c18
      refine z_iload C dX5_century_21 4 rfl ?_
      refine z_if_lt (tgt := 41) C dX5_century_23 (by decide) (fun c23 => ?_) (fun c23 => ?_)
      · rw [if_pos c23] at hf
        refine z_bipush (v := (-2 : Int32)) C dX5_century_41 (by decide) ?_
        exact z_iretW C hr hlk (by rw [hf]) (by rw [hf]) dX5_century_43
      · rw [if_neg c23] at hf
        refine z_iload C dX5_century_26 4 rfl ?_
        refine z_bipush (v := (20 : Int32)) C dX5_century_28 (by decide) ?_
        refine z_icmp_gt (tgt := 41) C dX5_century_30 (by decide) (fun c30 => ?_) (fun c30 => ?_)
        · rw [if_pos c30] at hf
          refine z_bipush (v := (-2 : Int32)) C dX5_century_41 (by decide) ?_
          exact z_iretW C hr hlk (by rw [hf]) (by rw [hf]) dX5_century_43
        · rw [if_neg c30] at hf
          refine z_iload C dX5_century_33 5 rfl ?_
          refine z_cSR (As := [.int w]) C (c_X5_isToldOfCentury l D cI cO w) (va_cwS 1 C.2.2.2.2.1 gX5_century_X5_isToldOfCentury rfl rfl rfl hdS_X5_isToldOfCentury ⟨Nat.le_of_ble_eq_true rfl, Nat.le_of_ble_eq_true rfl⟩) [] rfl rfl rfl _ rfl (Nat.le_of_ble_eq_true rfl) ⟨Nat.zero_le _, Nat.zero_le _⟩ dX5_century_35 ?_
          generalize hu35 : (F_X5_isToldOfCentury w) = u35 at hf ⊢
          refine z_if_ne (tgt := 44) C dX5_century_38 (by decide) (fun c38 => ?_) (fun c38 => ?_)
          · rw [if_neg c38] at hf
            have b38 := c38
            rw [← hu35] at c38
            refine z_aload_n C dX5_century_44 rfl 0 rfl ?_
            refine z_cVR (As := []) C (c_X5_hasWell l D cI cO h5 ash tr (0 : Int32) h4 a1 a2 a3 pn sl dr nw h2 h0 h1) (cwV 0 C.2.2.2.2.1 gX5_century_X5_hasWell rfl rfl rfl hdV_X5_hasWell ⟨Nat.le_of_ble_eq_true rfl, Nat.le_of_ble_eq_true rfl⟩) [0, 2] rfl rfl 0 rfl rfl rfl _ rfl (Nat.le_of_ble_eq_true rfl) ⟨Nat.zero_le _, Nat.zero_le _⟩ dX5_century_45 ?_
            generalize hu45 : (F_X5_hasWell pn) = u45 at hf ⊢
            refine z_if_ne (tgt := 54) C dX5_century_48 (by decide) (fun c48 => ?_) (fun c48 => ?_)
            · rw [if_neg c48] at hf
              have b48 := c48
              rw [← hu45] at c48
              refine z_aload_n C dX5_century_54 rfl 0 rfl ?_
              refine z_get (T := TX5) (v := .ref ash) C i_X5_century_5 0 rfl rfl 4 (by decide) m_X5_century_2 rfl rfl dX5_century_55 ?_
              refine z_iload_n C dX5_century_58 rfl 1 rfl ?_
              refine z_aldq (b := h3) C 1 rfl (by subst hu45 hu35 hu15 hu6; exact (isSheet_ix c9)) (by subst hu45 hu35 hu15 hu6; exact (hsq c9)) dX5_century_59 ?_
              refine z_astore C [(0, .ref h5), (1, .int sk), (2, .int la), (3, .int ti), (4, .int tn), (5, .int w), (6, .ref h3)] dX5_century_60 (by decide) [1, 2, 3, 4, 5, 6, 0] rfl ?_
              refine z_aload C dX5_century_62 6 rfl ?_
              refine z_iload_n C dX5_century_64 rfl 2 rfl ?_
              refine z_iload_n C dX5_century_65 rfl 3 rfl ?_
              refine z_iconst (v := (2 : Int32)) C dX5_century_66 (by decide) ?_
              refine z_iload C dX5_century_67 4 rfl ?_
              refine z_imul C dX5_century_69 ?_
              refine z_cVR (As := [.int la, .int ti, .int ((2 : Int32) * tn)]) C (c_X3_faultOfCells l D cI cO h3 b1 ln lg la ti ((2 : Int32) * tn)) (cwV 3 C.2.2.2.2.1 gX5_century_X3_faultOfCells rfl rfl rfl hdV_X3_faultOfCells ⟨Nat.le_of_ble_eq_true rfl, Nat.le_of_ble_eq_true rfl⟩) [11] rfl rfl 11 rfl rfl rfl _ rfl (Nat.le_of_ble_eq_true rfl) ⟨Nat.zero_le _, Nat.zero_le _⟩ dX5_century_70 ?_
              generalize hu70 : (F_X3_faultOfCells ln lg la ti ((2 : Int32) * tn)) = u70 at hf ⊢
              refine z_istore C [(0, .ref h5), (1, .int sk), (2, .int la), (3, .int ti), (4, .int tn), (5, .int w), (6, .ref h3), (7, .int u70)] dX5_century_73 (by decide) [1, 2, 3, 4, 5, 6, 7, 0] rfl ?_
              refine z_iload C dX5_century_75 7 rfl ?_
              refine z_if_eq (tgt := 87) C dX5_century_77 (by decide) (fun c77 => ?_) (fun c77 => ?_)
              · rw [if_pos c77] at hf
                have b77 := c77
                rw [← hu70] at c77
                obtain ⟨N0, hN20, hTN⟩ := nI_of2 (M := 20) (n := 20) (by decide) c23 (Int32.not_lt.mp c30)
                refine z_iconst (v := (0 : Int32)) C dX5_century_87 (by decide) ?_
                refine z_istore C [(0, .ref h5), (1, .int sk), (2, .int la), (3, .int ti), (4, .int tn), (5, .int w), (6, .ref h3), (7, .int u70), (8, .int (0 : Int32))] dX5_century_88 (by decide) [1, 2, 3, 4, 5, 6, 7, 8, 0] rfl ?_
                have X90 : ∀ (x8_90 : Int32), F_X5_century pn sl dr nw kd bd yr fw lb pnt slt drt nwt kdt bdt yrt ln lg cl sk la ti tn w = (F_X5_century_k90 pn sl dr nw kd bd yr kdt bdt yrt lg cl ti tn w) x8_90 → zG p l e ({ frames := 4, cells := 0, slots := 0, locals := 92 } : Room) s m args below meth c D (zA [(h5, .inr (5, [.ref h4, .ref h2, .ref h0, .ref h1, .ref ash, .int tr, .int ft])), (ash, .inl (cO, 4, .inr (.inr (.inr (.inr hq))))), (h4, .inr (4, [.ref a1, .ref a2, .ref a3, .int pn, .int sl, .int dr, .int nw])), (a1, .inl (cI, 9, .inl kd)), (a2, .inl (cI, 9, .inl bd)), (a3, .inl (cI, 9, .inl yr)), (h0, .inr (0, [.ref h4t, .int fw, .int lb])), (h4t, .inr (4, [.ref a1t, .ref a2t, .ref a3t, .int pnt, .int slt, .int drt, .int nwt])), (a1t, .inl (cI, 9, .inl kdt)), (a2t, .inl (cI, 9, .inl bdt)), (a3t, .inl (cI, 9, .inl yrt)), (h3, .inr (3, [.ref b1, .int ln, .int lg])), (b1, .inl (cI, 60, .inl cl))]) (zXw (zA [(h5, .inr (5, [.ref h4, .ref h2, .ref h0, .ref h1, .ref ash, .int tr, .int ft])), (ash, .inl (cO, 4, .inr (.inr (.inr (.inr hq))))), (h4, .inr (4, [.ref a1, .ref a2, .ref a3, .int pn, .int sl, .int dr, .int nw])), (a1, .inl (cI, 9, .inl kd)), (a2, .inl (cI, 9, .inl bd)), (a3, .inl (cI, 9, .inl yr)), (h0, .inr (0, [.ref h4t, .int fw, .int lb])), (h4t, .inr (4, [.ref a1t, .ref a2t, .ref a3t, .int pnt, .int slt, .int drt, .int nwt])), (a1t, .inl (cI, 9, .inl kdt)), (a2t, .inl (cI, 9, .inl bdt)), (a3t, .inl (cI, 9, .inl yrt)), (h3, .inr (3, [.ref b1, .int ln, .int lg])), (b1, .inl (cI, 60, .inl cl))]) s.heap) 9 0 0 (MQ below (zQw D [(h5, .inr (5, [.ref h4, .ref h2, .ref h0, .ref h1, .ref ash, .int tr, .int ((F_X5_century pn sl dr nw kd bd yr fw lb pnt slt drt nwt kdt bdt yrt ln lg cl sk la ti tn w).2.1)])), (ash, .inl (cO, 4, .inr (.inr (.inr (.inr hq))))), (h4, .inr (4, [.ref a1, .ref a2, .ref a3, .int pn, .int sl, .int dr, .int nw])), (a1, .inl (cI, 9, .inl kd)), (a2, .inl (cI, 9, .inl bd)), (a3, .inl (cI, 9, .inl yr)), (h0, .inr (0, [.ref h4t, .int ((F_X5_century pn sl dr nw kd bd yr fw lb pnt slt drt nwt kdt bdt yrt ln lg cl sk la ti tn w).2.2.2.1), .int ((F_X5_century pn sl dr nw kd bd yr fw lb pnt slt drt nwt kdt bdt yrt ln lg cl sk la ti tn w).2.2.2.2.1)])), (h4t, .inr (4, [.ref a1t, .ref a2t, .ref a3t, .int ((F_X5_century pn sl dr nw kd bd yr fw lb pnt slt drt nwt kdt bdt yrt ln lg cl sk la ti tn w).2.2.2.2.2.1), .int ((F_X5_century pn sl dr nw kd bd yr fw lb pnt slt drt nwt kdt bdt yrt ln lg cl sk la ti tn w).2.2.2.2.2.2.1), .int ((F_X5_century pn sl dr nw kd bd yr fw lb pnt slt drt nwt kdt bdt yrt ln lg cl sk la ti tn w).2.2.2.2.2.2.2.1), .int ((F_X5_century pn sl dr nw kd bd yr fw lb pnt slt drt nwt kdt bdt yrt ln lg cl sk la ti tn w).2.2.2.2.2.2.2.2.1)])), (a1t, .inl (cI, 9, .inl ((F_X5_century pn sl dr nw kd bd yr fw lb pnt slt drt nwt kdt bdt yrt ln lg cl sk la ti tn w).2.2.2.2.2.2.2.2.2.1))), (a2t, .inl (cI, 9, .inl ((F_X5_century pn sl dr nw kd bd yr fw lb pnt slt drt nwt kdt bdt yrt ln lg cl sk la ti tn w).2.2.2.2.2.2.2.2.2.2))), (a3t, .inl (cI, 9, .inl ((F_X5_century pn sl dr nw kd bd yr fw lb pnt slt drt nwt kdt bdt yrt ln lg cl sk la ti tn w).2.2.1))), (h3, .inr (3, [.ref b1, .int ln, .int lg])), (b1, .inl (cI, 60, .inl cl))] (zA [(h5, .inr (5, [.ref h4, .ref h2, .ref h0, .ref h1, .ref ash, .int tr, .int ft])), (ash, .inl (cO, 4, .inr (.inr (.inr (.inr hq))))), (h4, .inr (4, [.ref a1, .ref a2, .ref a3, .int pn, .int sl, .int dr, .int nw])), (a1, .inl (cI, 9, .inl kd)), (a2, .inl (cI, 9, .inl bd)), (a3, .inl (cI, 9, .inl yr)), (h0, .inr (0, [.ref h4t, .int fw, .int lb])), (h4t, .inr (4, [.ref a1t, .ref a2t, .ref a3t, .int pnt, .int slt, .int drt, .int nwt])), (a1t, .inl (cI, 9, .inl kdt)), (a2t, .inl (cI, 9, .inl bdt)), (a3t, .inl (cI, 9, .inl yrt)), (h3, .inr (3, [.ref b1, .int ln, .int lg])), (b1, .inl (cI, 60, .inl cl))]) (some (.int ((F_X5_century pn sl dr nw kd bd yr fw lb pnt slt drt nwt kdt bdt yrt ln lg cl sk la ti tn w).1)))) args s 0 0 (zA [(h5, .inr (5, [.ref h4, .ref h2, .ref h0, .ref h1, .ref ash, .int tr, .int ft])), (ash, .inl (cO, 4, .inr (.inr (.inr (.inr hq))))), (h4, .inr (4, [.ref a1, .ref a2, .ref a3, .int pn, .int sl, .int dr, .int nw])), (a1, .inl (cI, 9, .inl kd)), (a2, .inl (cI, 9, .inl bd)), (a3, .inl (cI, 9, .inl yr)), (h0, .inr (0, [.ref h4t, .int fw, .int lb])), (h4t, .inr (4, [.ref a1t, .ref a2t, .ref a3t, .int pnt, .int slt, .int drt, .int nwt])), (a1t, .inl (cI, 9, .inl kdt)), (a2t, .inl (cI, 9, .inl bdt)), (a3t, .inl (cI, 9, .inl yrt)), (h3, .inr (3, [.ref b1, .int ln, .int lg])), (b1, .inl (cI, 60, .inl cl))])) 136 [(0, .ref h5), (1, .int sk), (2, .int la), (3, .int ti), (4, .int tn), (5, .int w), (6, .ref h3), (7, .int u70), (8, .int x8_90)] [] [(h5, .inr (5, [.ref h4, .ref h2, .ref h0, .ref h1, .ref ash, .int tr, .int (0 : Int32)])), (ash, .inl (cO, 4, .inr (.inr (.inr (.inr hq))))), (h4, .inr (4, [.ref a1, .ref a2, .ref a3, .int pn, .int sl, .int dr, .int nw])), (a1, .inl (cI, 9, .inl kd)), (a2, .inl (cI, 9, .inl bd)), (a3, .inl (cI, 9, .inl yr)), (h0, .inr (0, [.ref h4t, .int fw, .int lb])), (h4t, .inr (4, [.ref a1t, .ref a2t, .ref a3t, .int pnt, .int slt, .int drt, .int nwt])), (a1t, .inl (cI, 9, .inl kdt)), (a2t, .inl (cI, 9, .inl bdt)), (a3t, .inl (cI, 9, .inl yrt)), (h3, .inr (3, [.ref b1, .int ln, .int lg])), (b1, .inl (cI, 60, .inl cl))] := by
                  intro x8_90 hf
                  rw [F_X5_century_k90] at hf
                  skip
                  refine z_aload_n C dX5_century_136 rfl 0 rfl ?_
                  refine z_get (T := TX5) (v := .ref h0) C i_X5_century_5 0 rfl rfl 2 (by decide) m_X5_century_3 rfl rfl dX5_century_137 ?_
                  refine z_aload_n C dX5_century_140 rfl 0 rfl ?_
                  refine z_get (T := TX5) (v := .ref h4) C i_X5_century_5 0 rfl rfl 0 (by decide) m_X5_century_4 rfl rfl dX5_century_141 ?_
                  refine z_aload C dX5_century_144 6 rfl ?_
                  refine z_iload_n C dX5_century_146 rfl 3 rfl ?_
                  refine z_iload C dX5_century_147 4 rfl ?_
                  refine z_cVW (As := [.ref h4, .ref h3, .int ti, .int tn]) C (c_X0_play l D cI cO h0 fw lb h4t a1t a2t a3t pnt slt drt nwt kdt bdt yrt h4 a1 a2 a3 pn sl dr nw kd bd yr h3 b1 ln lg cl ti tn N0 (by subst hu70 hu45 hu35 hu15 hu6; exact hlg) (by subst hu70 hu45 hu35 hu15 hu6; exact hTN) (by subst hu70 hu45 hu35 hu15 hu6; exact hN20)) (cwV 4 C.2.2.2.2.1 gX5_century_X0_play rfl rfl rfl hdV_X0_play ⟨Nat.le_of_ble_eq_true rfl, Nat.le_of_ble_eq_true rfl⟩) [(h5, .inr (5, [.ref h4, .ref h2, .ref h0, .ref h1, .ref ash, .int tr, .int (0 : Int32)])), (ash, .inl (cO, 4, .inr (.inr (.inr (.inr hq))))), (h4, .inr (4, [.ref a1, .ref a2, .ref a3, .int pn, .int sl, .int dr, .int nw])), (a1, .inl (cI, 9, .inl kd)), (a2, .inl (cI, 9, .inl bd)), (a3, .inl (cI, 9, .inl yr)), (h0, .inr (0, [.ref h4t, .int ((F_X0_play kdt bdt yrt pn sl dr nw kd bd yr lg cl ti tn).1), .int ((F_X0_play kdt bdt yrt pn sl dr nw kd bd yr lg cl ti tn).2.1)])), (h4t, .inr (4, [.ref a1t, .ref a2t, .ref a3t, .int ((F_X0_play kdt bdt yrt pn sl dr nw kd bd yr lg cl ti tn).2.2.1), .int ((F_X0_play kdt bdt yrt pn sl dr nw kd bd yr lg cl ti tn).2.2.2.1), .int ((F_X0_play kdt bdt yrt pn sl dr nw kd bd yr lg cl ti tn).2.2.2.2.1), .int ((F_X0_play kdt bdt yrt pn sl dr nw kd bd yr lg cl ti tn).2.2.2.2.2.1)])), (a1t, .inl (cI, 9, .inl ((F_X0_play kdt bdt yrt pn sl dr nw kd bd yr lg cl ti tn).2.2.2.2.2.2.1))), (a2t, .inl (cI, 9, .inl ((F_X0_play kdt bdt yrt pn sl dr nw kd bd yr lg cl ti tn).2.2.2.2.2.2.2.1))), (a3t, .inl (cI, 9, .inl ((F_X0_play kdt bdt yrt pn sl dr nw kd bd yr lg cl ti tn).2.2.2.2.2.2.2.2))), (h3, .inr (3, [.ref b1, .int ln, .int lg])), (b1, .inl (cI, 60, .inl cl))] [6, 7, 8, 9, 10, 2, 3, 4, 5, 11, 12] rfl rfl (Eq.refl [h0, h4t, a1t, a2t, a3t, h4, a1, a2, a3, h3, b1]) rfl 6 rfl rfl rfl _ rfl (Nat.le_of_ble_eq_true rfl) ⟨Nat.zero_le _, Nat.zero_le _⟩ dX5_century_149 ?_
                  generalize hu149 : (F_X0_play kdt bdt yrt pn sl dr nw kd bd yr lg cl ti tn) = u149 at hf ⊢
                  obtain ⟨n2, hnp2, hpt2⟩ := play_np kdt bdt yrt pn sl dr nw kd bd yr lg cl ti tn hpn hnp
                  refine z_aload_n C dX5_century_152 rfl 0 rfl ?_
                  refine z_get (T := TX5) (v := .ref h0) C i_X5_century_5 0 rfl rfl 2 (by decide) m_X5_century_3 rfl rfl dX5_century_153 ?_
                  refine z_iload C dX5_century_156 5 rfl ?_
                  refine z_cVR (As := [.int w]) C (c_X0_told l D cI cO h0 u149.1 u149.2.1 h4t a1t a2t a3t u149.2.2.1 u149.2.2.2.1 u149.2.2.2.2.1 u149.2.2.2.2.2.1 u149.2.2.2.2.2.2.1 u149.2.2.2.2.2.2.2.1 u149.2.2.2.2.2.2.2.2 w n2 (by subst hu149 hu70 hu45 hu35 hu15 hu6; exact hpt2) (by subst hu149 hu70 hu45 hu35 hu15 hu6; exact hnp2)) (cwV 1 C.2.2.2.2.1 gX5_century_X0_told rfl rfl rfl hdV_X0_told ⟨Nat.le_of_ble_eq_true rfl, Nat.le_of_ble_eq_true rfl⟩) [6, 7, 8, 9, 10] rfl rfl 6 rfl rfl rfl _ rfl (Nat.le_of_ble_eq_true rfl) ⟨Nat.zero_le _, Nat.zero_le _⟩ dX5_century_158 ?_
                  generalize hu158 : (F_X0_told u149.1 u149.2.1 u149.2.2.1 u149.2.2.2.1 u149.2.2.2.2.1 u149.2.2.2.2.2.1 u149.2.2.2.2.2.2.1 u149.2.2.2.2.2.2.2.1 u149.2.2.2.2.2.2.2.2 w) = u158 at hf ⊢
                  exact z_iretW C hr hlk (by rw [hf]) (by rw [hf]) dX5_century_161
                have L90 : ∀ (d90 : Nat) (j : Nat) (x8_90 : Int32) (e8 : x8_90 = nI j) (hj : j ≤ N0) (hd : N0 < j + d90), F_X5_century pn sl dr nw kd bd yr fw lb pnt slt drt nwt kdt bdt yrt ln lg cl sk la ti tn w = F_X5_century_l90 fw lb pnt slt drt nwt kdt bdt yrt lg cl ti tn (F_X5_century_k90 pn sl dr nw kd bd yr kdt bdt yrt lg cl ti tn w) d90 x8_90 → zG p l e ({ frames := 4, cells := 0, slots := 0, locals := 92 } : Room) s m args below meth c D (zA [(h5, .inr (5, [.ref h4, .ref h2, .ref h0, .ref h1, .ref ash, .int tr, .int ft])), (ash, .inl (cO, 4, .inr (.inr (.inr (.inr hq))))), (h4, .inr (4, [.ref a1, .ref a2, .ref a3, .int pn, .int sl, .int dr, .int nw])), (a1, .inl (cI, 9, .inl kd)), (a2, .inl (cI, 9, .inl bd)), (a3, .inl (cI, 9, .inl yr)), (h0, .inr (0, [.ref h4t, .int fw, .int lb])), (h4t, .inr (4, [.ref a1t, .ref a2t, .ref a3t, .int pnt, .int slt, .int drt, .int nwt])), (a1t, .inl (cI, 9, .inl kdt)), (a2t, .inl (cI, 9, .inl bdt)), (a3t, .inl (cI, 9, .inl yrt)), (h3, .inr (3, [.ref b1, .int ln, .int lg])), (b1, .inl (cI, 60, .inl cl))]) (zXw (zA [(h5, .inr (5, [.ref h4, .ref h2, .ref h0, .ref h1, .ref ash, .int tr, .int ft])), (ash, .inl (cO, 4, .inr (.inr (.inr (.inr hq))))), (h4, .inr (4, [.ref a1, .ref a2, .ref a3, .int pn, .int sl, .int dr, .int nw])), (a1, .inl (cI, 9, .inl kd)), (a2, .inl (cI, 9, .inl bd)), (a3, .inl (cI, 9, .inl yr)), (h0, .inr (0, [.ref h4t, .int fw, .int lb])), (h4t, .inr (4, [.ref a1t, .ref a2t, .ref a3t, .int pnt, .int slt, .int drt, .int nwt])), (a1t, .inl (cI, 9, .inl kdt)), (a2t, .inl (cI, 9, .inl bdt)), (a3t, .inl (cI, 9, .inl yrt)), (h3, .inr (3, [.ref b1, .int ln, .int lg])), (b1, .inl (cI, 60, .inl cl))]) s.heap) 9 0 0 (MQ below (zQw D [(h5, .inr (5, [.ref h4, .ref h2, .ref h0, .ref h1, .ref ash, .int tr, .int ((F_X5_century pn sl dr nw kd bd yr fw lb pnt slt drt nwt kdt bdt yrt ln lg cl sk la ti tn w).2.1)])), (ash, .inl (cO, 4, .inr (.inr (.inr (.inr hq))))), (h4, .inr (4, [.ref a1, .ref a2, .ref a3, .int pn, .int sl, .int dr, .int nw])), (a1, .inl (cI, 9, .inl kd)), (a2, .inl (cI, 9, .inl bd)), (a3, .inl (cI, 9, .inl yr)), (h0, .inr (0, [.ref h4t, .int ((F_X5_century pn sl dr nw kd bd yr fw lb pnt slt drt nwt kdt bdt yrt ln lg cl sk la ti tn w).2.2.2.1), .int ((F_X5_century pn sl dr nw kd bd yr fw lb pnt slt drt nwt kdt bdt yrt ln lg cl sk la ti tn w).2.2.2.2.1)])), (h4t, .inr (4, [.ref a1t, .ref a2t, .ref a3t, .int ((F_X5_century pn sl dr nw kd bd yr fw lb pnt slt drt nwt kdt bdt yrt ln lg cl sk la ti tn w).2.2.2.2.2.1), .int ((F_X5_century pn sl dr nw kd bd yr fw lb pnt slt drt nwt kdt bdt yrt ln lg cl sk la ti tn w).2.2.2.2.2.2.1), .int ((F_X5_century pn sl dr nw kd bd yr fw lb pnt slt drt nwt kdt bdt yrt ln lg cl sk la ti tn w).2.2.2.2.2.2.2.1), .int ((F_X5_century pn sl dr nw kd bd yr fw lb pnt slt drt nwt kdt bdt yrt ln lg cl sk la ti tn w).2.2.2.2.2.2.2.2.1)])), (a1t, .inl (cI, 9, .inl ((F_X5_century pn sl dr nw kd bd yr fw lb pnt slt drt nwt kdt bdt yrt ln lg cl sk la ti tn w).2.2.2.2.2.2.2.2.2.1))), (a2t, .inl (cI, 9, .inl ((F_X5_century pn sl dr nw kd bd yr fw lb pnt slt drt nwt kdt bdt yrt ln lg cl sk la ti tn w).2.2.2.2.2.2.2.2.2.2))), (a3t, .inl (cI, 9, .inl ((F_X5_century pn sl dr nw kd bd yr fw lb pnt slt drt nwt kdt bdt yrt ln lg cl sk la ti tn w).2.2.1))), (h3, .inr (3, [.ref b1, .int ln, .int lg])), (b1, .inl (cI, 60, .inl cl))] (zA [(h5, .inr (5, [.ref h4, .ref h2, .ref h0, .ref h1, .ref ash, .int tr, .int ft])), (ash, .inl (cO, 4, .inr (.inr (.inr (.inr hq))))), (h4, .inr (4, [.ref a1, .ref a2, .ref a3, .int pn, .int sl, .int dr, .int nw])), (a1, .inl (cI, 9, .inl kd)), (a2, .inl (cI, 9, .inl bd)), (a3, .inl (cI, 9, .inl yr)), (h0, .inr (0, [.ref h4t, .int fw, .int lb])), (h4t, .inr (4, [.ref a1t, .ref a2t, .ref a3t, .int pnt, .int slt, .int drt, .int nwt])), (a1t, .inl (cI, 9, .inl kdt)), (a2t, .inl (cI, 9, .inl bdt)), (a3t, .inl (cI, 9, .inl yrt)), (h3, .inr (3, [.ref b1, .int ln, .int lg])), (b1, .inl (cI, 60, .inl cl))]) (some (.int ((F_X5_century pn sl dr nw kd bd yr fw lb pnt slt drt nwt kdt bdt yrt ln lg cl sk la ti tn w).1)))) args s 0 0 (zA [(h5, .inr (5, [.ref h4, .ref h2, .ref h0, .ref h1, .ref ash, .int tr, .int ft])), (ash, .inl (cO, 4, .inr (.inr (.inr (.inr hq))))), (h4, .inr (4, [.ref a1, .ref a2, .ref a3, .int pn, .int sl, .int dr, .int nw])), (a1, .inl (cI, 9, .inl kd)), (a2, .inl (cI, 9, .inl bd)), (a3, .inl (cI, 9, .inl yr)), (h0, .inr (0, [.ref h4t, .int fw, .int lb])), (h4t, .inr (4, [.ref a1t, .ref a2t, .ref a3t, .int pnt, .int slt, .int drt, .int nwt])), (a1t, .inl (cI, 9, .inl kdt)), (a2t, .inl (cI, 9, .inl bdt)), (a3t, .inl (cI, 9, .inl yrt)), (h3, .inr (3, [.ref b1, .int ln, .int lg])), (b1, .inl (cI, 60, .inl cl))])) 90 [(0, .ref h5), (1, .int sk), (2, .int la), (3, .int ti), (4, .int tn), (5, .int w), (6, .ref h3), (7, .int u70), (8, .int x8_90)] [] [(h5, .inr (5, [.ref h4, .ref h2, .ref h0, .ref h1, .ref ash, .int tr, .int (0 : Int32)])), (ash, .inl (cO, 4, .inr (.inr (.inr (.inr hq))))), (h4, .inr (4, [.ref a1, .ref a2, .ref a3, .int pn, .int sl, .int dr, .int nw])), (a1, .inl (cI, 9, .inl kd)), (a2, .inl (cI, 9, .inl bd)), (a3, .inl (cI, 9, .inl yr)), (h0, .inr (0, [.ref h4t, .int fw, .int lb])), (h4t, .inr (4, [.ref a1t, .ref a2t, .ref a3t, .int pnt, .int slt, .int drt, .int nwt])), (a1t, .inl (cI, 9, .inl kdt)), (a2t, .inl (cI, 9, .inl bdt)), (a3t, .inl (cI, 9, .inl yrt)), (h3, .inr (3, [.ref b1, .int ln, .int lg])), (b1, .inl (cI, 60, .inl cl))] := by
                  intro d90
                  induction d90 with
                  | zero =>
                    intro j x8_90 e8 hj hd hf
                    exfalso; omega
                  | succ d90 ih90 =>
                    intro j x8_90 e8 hj hd hf
                    rw [F_X5_century_l90] at hf
                    skip
                    refine z_iload C dX5_century_90 8 rfl ?_
                    refine z_iload C dX5_century_92 4 rfl ?_
                    refine z_icmp_ge (tgt := 136) C dX5_century_94 (by decide) (fun c94 => ?_) (fun c94 => ?_)
                    · rw [if_pos c94] at hf
                      exact X90 x8_90  hf
                    · rw [if_neg c94] at hf
                      refine z_aload C dX5_century_97 6 rfl ?_
                      refine z_iload_n C dX5_century_99 rfl 3 rfl ?_
                      refine z_iconst (v := (2 : Int32)) C dX5_century_100 (by decide) ?_
                      refine z_iload C dX5_century_101 8 rfl ?_
                      refine z_imul C dX5_century_103 ?_
                      refine z_iadd C dX5_century_104 ?_
                      refine z_cVR (As := [.int (ti + ((2 : Int32) * x8_90))]) C (c_X3_at l D cI cO h3 b1 ln lg cl (ti + ((2 : Int32) * x8_90)) (by subst hu70 hu45 hu35 hu15 hu6; exact hlg)) (cwV 1 C.2.2.2.2.1 gX5_century_X3_at rfl rfl rfl hdV_X3_at ⟨Nat.le_of_ble_eq_true rfl, Nat.le_of_ble_eq_true rfl⟩) [11, 12] rfl rfl 11 rfl rfl rfl _ rfl (Nat.le_of_ble_eq_true rfl) ⟨Nat.zero_le _, Nat.zero_le _⟩ dX5_century_105 ?_
                      generalize hu105 : (F_X3_at lg cl (ti + ((2 : Int32) * x8_90))) = u105 at hf ⊢
                      refine z_aload C dX5_century_108 6 rfl ?_
                      refine z_iload_n C dX5_century_110 rfl 3 rfl ?_
                      refine z_iconst (v := (2 : Int32)) C dX5_century_111 (by decide) ?_
                      refine z_iload C dX5_century_112 8 rfl ?_
                      refine z_imul C dX5_century_114 ?_
                      refine z_iadd C dX5_century_115 ?_
                      refine z_iconst (v := (1 : Int32)) C dX5_century_116 (by decide) ?_
                      refine z_iadd C dX5_century_117 ?_
                      refine z_cVR (As := [.int ((ti + ((2 : Int32) * x8_90)) + (1 : Int32))]) C (c_X3_at l D cI cO h3 b1 ln lg cl ((ti + ((2 : Int32) * x8_90)) + (1 : Int32)) (by subst hu105 hu70 hu45 hu35 hu15 hu6; exact hlg)) (cwV 1 C.2.2.2.2.1 gX5_century_X3_at rfl rfl rfl hdV_X3_at ⟨Nat.le_of_ble_eq_true rfl, Nat.le_of_ble_eq_true rfl⟩) [11, 12] rfl rfl 11 rfl rfl rfl _ rfl (Nat.le_of_ble_eq_true rfl) ⟨Nat.zero_le _, Nat.zero_le _⟩ dX5_century_118 ?_
                      generalize hu118 : (F_X3_at lg cl ((ti + ((2 : Int32) * x8_90)) + (1 : Int32))) = u118 at hf ⊢
                      refine z_cSR (As := [.int u105, .int u118]) C (c_X5_isAct l D cI cO u105 u118) (va_cwS 2 C.2.2.2.2.1 gX5_century_X5_isAct rfl rfl rfl hdS_X5_isAct ⟨Nat.le_of_ble_eq_true rfl, Nat.le_of_ble_eq_true rfl⟩) [] rfl rfl rfl _ rfl (Nat.le_of_ble_eq_true rfl) ⟨Nat.zero_le _, Nat.zero_le _⟩ dX5_century_121 ?_
                      generalize hu121 : (F_X5_isAct u105 u118) = u121 at hf ⊢
                      refine z_if_ne (tgt := 130) C dX5_century_124 (by decide) (fun c124 => ?_) (fun c124 => ?_)
                      · rw [if_neg c124] at hf
                        have b124 := c124
                        rw [← hu121] at c124
                        refine z_iinc (v := (x8_90 + (1 : Int32))) C [(0, .ref h5), (1, .int sk), (2, .int la), (3, .int ti), (4, .int tn), (5, .int w), (6, .ref h3), (7, .int u70), (8, .int (x8_90 + (1 : Int32)))] dX5_century_130 8 rfl (by rfl) (by decide) [1, 2, 3, 4, 5, 6, 7, 8, 0] rfl ?_
                        refine z_goto (tgt := 90) C dX5_century_133 (by decide) ?_
                        exact ih90 (j + 1) (x8_90 + (1 : Int32)) (by subst hu121 hu118 hu105 hu70 hu45 hu35 hu15 hu6; exact (by rw [e8]; exact nI_1 j)) (by subst hu121 hu118 hu105 hu70 hu45 hu35 hu15 hu6; exact (by have := z_jlt e8 (by omega) (z_tiN hTN (by omega)) c94; omega)) (by omega) hf
                      · rw [if_pos c124] at hf
                        have b124 := c124
                        rw [← hu121] at c124
                        refine z_bipush (v := (-2 : Int32)) C dX5_century_127 (by decide) ?_
                        exact z_iretW C hr hlk (by rw [hf]) (by rw [hf]) dX5_century_129
                exact L90 21 0 (0 : Int32) (by subst hu70 hu45 hu35 hu15 hu6; exact nI_0.symm) (by subst hu70 hu45 hu35 hu15 hu6; exact (Nat.zero_le _)) (by omega) hf
              · rw [if_neg c77] at hf
                have b77 := c77
                rw [← hu70] at c77
                refine z_aload_n C dX5_century_80 rfl 0 rfl ?_
                refine z_iload C dX5_century_81 7 rfl ?_
                refine z_cVW (As := [.int u70]) C (c_X5_failed l D cI cO h5 ash tr (0 : Int32) h4 h2 h0 h1 u70) (cwV 1 C.2.2.2.2.1 gX5_century_X5_failed rfl rfl rfl hdV_X5_failed ⟨Nat.le_of_ble_eq_true rfl, Nat.le_of_ble_eq_true rfl⟩) [(h5, .inr (5, [.ref h4, .ref h2, .ref h0, .ref h1, .ref ash, .int tr, .int ((F_X5_failed u70).2)])), (ash, .inl (cO, 4, .inr (.inr (.inr (.inr hq))))), (h4, .inr (4, [.ref a1, .ref a2, .ref a3, .int pn, .int sl, .int dr, .int nw])), (a1, .inl (cI, 9, .inl kd)), (a2, .inl (cI, 9, .inl bd)), (a3, .inl (cI, 9, .inl yr)), (h0, .inr (0, [.ref h4t, .int fw, .int lb])), (h4t, .inr (4, [.ref a1t, .ref a2t, .ref a3t, .int pnt, .int slt, .int drt, .int nwt])), (a1t, .inl (cI, 9, .inl kdt)), (a2t, .inl (cI, 9, .inl bdt)), (a3t, .inl (cI, 9, .inl yrt)), (h3, .inr (3, [.ref b1, .int ln, .int lg])), (b1, .inl (cI, 60, .inl cl))] [0] rfl rfl (Eq.refl [h5]) rfl 0 rfl rfl rfl _ rfl (Nat.le_of_ble_eq_true rfl) ⟨Nat.zero_le _, Nat.zero_le _⟩ dX5_century_83 ?_
                generalize hu83 : (F_X5_failed u70) = u83 at hf ⊢
                exact z_iretW C hr hlk (by rw [hf]) (by rw [hf]) dX5_century_86
            · rw [if_pos c48] at hf
              have b48 := c48
              rw [← hu45] at c48
              refine z_bipush (v := (-3 : Int32)) C dX5_century_51 (by decide) ?_
              exact z_iretW C hr hlk (by rw [hf]) (by rw [hf]) dX5_century_53
          · rw [if_pos c38] at hf
            have b38 := c38
            rw [← hu35] at c38
            refine z_bipush (v := (-2 : Int32)) C dX5_century_41 (by decide) ?_
            exact z_iretW C hr hlk (by rw [hf]) (by rw [hf]) dX5_century_43
  · rw [if_pos c9] at hf
    have b9 := c9
    rw [← hu6] at c9
    refine z_iconst (v := (-1 : Int32)) C dX5_century_12 (by decide) ?_
    exact z_iretW C hr hlk (by rw [hf]) (by rw [hf]) dX5_century_13
theorem ask_l40 {pn sl dr : Int32} {kd bd yr : Nat → Int32} {lg : Int32} {cl : Nat → Int32} {ti : Int32} {np : Nat} (hpn : pn = nI np) (hnp : np ≤ 9) : ∀ (d : Nat) (j : Nat) (x4 : Int32) (sh wa sp : Nat → Int32), x4 = nI j → j ≤ np → np < j + d → (∀ i, i < j → vp_in (sh i) 6) → (F_X1_ask_l40 pn sl dr kd bd yr lg cl ti (F_X1_ask_k40 pn) d x4 sh wa sp).1 = nI np ∧ (∀ i, i < np → vp_in ((F_X1_ask_l40 pn sl dr kd bd yr lg cl ti (F_X1_ask_k40 pn) d x4 sh wa sp).2.2.1 i) 6) := by
  intro d
  induction d with
  | zero => intro j x4 sh wa sp e hj hd h; exfalso; omega
  | succ d ih =>
    intro j x4 sh wa sp e hj hd h
    have hm := z_min9 hpn hnp
    rw [F_X1_ask_l40]
    by_cases c : (if (9 : Int32) < pn then (9 : Int32) else pn) ≤ x4
    · rw [if_pos c]
      have := z_jge e (by omega) (z_tiN hm (by omega)) c
      refine ⟨hm, fun i hi => h i (by omega)⟩
    · rw [if_neg c]
      have := z_jlt e (by omega) (z_tiN hm (by omega)) c
      split
      · exact ih (j + 1) _ _ _ _ (by rw [e]; exact nI_1 j) (by omega) (by omega) (z_sh e (by omega) h (fm_in _))
      · exact ih (j + 1) _ _ _ _ (by rw [e]; exact nI_1 j) (by omega) (by omega) (z_sh e (by omega) h (fm_in _))
theorem ask_l16 {P : Int32 × Int32 × (Nat → Int32) × (Nat → Int32) × (Nat → Int32) → Prop} (K : Int32 → (Nat → Int32) → Int32 × Int32 × (Nat → Int32) × (Nat → Int32) × (Nat → Int32)) (hK : ∀ x s, P (K x s)) : ∀ (d : Nat) (x : Int32) (s : Nat → Int32), P (F_X1_ask_l16 K d x s) := by
  intro d
  induction d with
  | zero => intro x s; rw [F_X1_ask_l16]; exact hK x s
  | succ d ih =>
    intro x s
    rw [F_X1_ask_l16]
    split
    · exact hK x s
    · exact ih _ _
theorem ask_np {wa sh sp : Nat → Int32} {pn sl dr : Int32} {kd bd yr : Nat → Int32} {lg : Int32} {cl : Nat → Int32} {ti : Int32} {np : Nat} (hpn : pn = nI np) (hnp : np ≤ 9) : (F_X1_ask sh wa sp pn sl dr kd bd yr lg cl ti).1 = nI np ∧ (∀ i, i < np → vp_in ((F_X1_ask sh wa sp pn sl dr kd bd yr lg cl ti).2.2.1 i) 6) := by
  rw [F_X1_ask]
  exact ask_l16 (P := fun r => r.1 = nI np ∧ ∀ i, i < np → vp_in (r.2.2.1 i) 6) _ (fun x s => by rw [F_X1_ask_k16]; exact ask_l40 hpn hnp 10 0 _ _ _ _ nI_0.symm (by omega) (by omega) (fun i hi => absurd hi (Nat.not_lt_zero i))) _ _ _
-- X5_layers
theorem i_X5_layers_5 : ∀ w ∈ u_ws RX5 TX5 7, w ∈ wsX5_layers := by decide +kernel
theorem m_X5_layers_1 : Cond.fieldLink RX5 46 "WishPins" "latestFault" "I" ∈ wsX5_layers := List.mem_of_getElem? (i := 1) rfl
theorem m_X5_layers_2 : Cond.fieldLink RX5 41 "WishPins" "sheets" "[LWishPins$Sheet;" ∈ wsX5_layers := List.mem_of_getElem? (i := 2) rfl
theorem m_X5_layers_3 : Cond.fieldLink RX5 12 "WishPins" "lying" "LWishPins$Well;" ∈ wsX5_layers := List.mem_of_getElem? (i := 3) rfl
theorem i_X5_layers_4 : ∀ w ∈ u_ws RX4 TX4 7, w ∈ wsX5_layers := by decide +kernel
theorem m_X5_layers_4 : Cond.fieldLink RX5 79 "WishPins$Well" "pins" "I" ∈ wsX5_layers := List.mem_of_getElem? (i := 4) rfl
theorem m_X5_layers_5 : Cond.fieldLink RX5 35 "WishPins" "orders" "LWishPins$Layers;" ∈ wsX5_layers := List.mem_of_getElem? (i := 5) rfl
theorem i_X5_layers_1 : ∀ w ∈ u_ws RX1 TX1 5, w ∈ wsX5_layers := by decide +kernel
theorem m_X5_layers_6 : Cond.fieldLink RX5 163 "WishPins$Layers" "ways" "I" ∈ wsX5_layers := List.mem_of_getElem? (i := 6) rfl
def F_X5_layers_k86 (pn : Int32) (sl : Int32) (dr : Int32) (kd : Nat → Int32) (bd : Nat → Int32) (yr : Nat → Int32) (sh : Nat → Int32) (wa : Nat → Int32) (sp : Nat → Int32) (lg : Int32) (cl : Nat → Int32) (ti : Int32) (k : Int32) (x7_86 : Int32) : Int32 × Int32 × Int32 × Int32 × (Nat → Int32) × (Nat → Int32) × (Nat → Int32) :=
  (if 0 ≤ k then ((F_X1_firstAt (F_X1_ask sh wa sp pn sl dr kd bd yr lg cl ti).1 (F_X1_ask sh wa sp pn sl dr kd bd yr lg cl ti).2.1 (F_X1_ask sh wa sp pn sl dr kd bd yr lg cl ti).2.2.1 (F_X1_ask sh wa sp pn sl dr kd bd yr lg cl ti).2.2.2.1 (F_X1_ask sh wa sp pn sl dr kd bd yr lg cl ti).2.2.2.2 k).1, (0 : Int32), (F_X1_ask sh wa sp pn sl dr kd bd yr lg cl ti).1, (F_X1_ask sh wa sp pn sl dr kd bd yr lg cl ti).2.1, (F_X1_ask sh wa sp pn sl dr kd bd yr lg cl ti).2.2.1, (F_X1_ask sh wa sp pn sl dr kd bd yr lg cl ti).2.2.2.1, (F_X1_firstAt (F_X1_ask sh wa sp pn sl dr kd bd yr lg cl ti).1 (F_X1_ask sh wa sp pn sl dr kd bd yr lg cl ti).2.1 (F_X1_ask sh wa sp pn sl dr kd bd yr lg cl ti).2.2.1 (F_X1_ask sh wa sp pn sl dr kd bd yr lg cl ti).2.2.2.1 (F_X1_ask sh wa sp pn sl dr kd bd yr lg cl ti).2.2.2.2 k).2) else ((F_X1_ask sh wa sp pn sl dr kd bd yr lg cl ti).2.1, (0 : Int32), (F_X1_ask sh wa sp pn sl dr kd bd yr lg cl ti).1, (F_X1_ask sh wa sp pn sl dr kd bd yr lg cl ti).2.1, (F_X1_ask sh wa sp pn sl dr kd bd yr lg cl ti).2.2.1, (F_X1_ask sh wa sp pn sl dr kd bd yr lg cl ti).2.2.2.1, (F_X1_ask sh wa sp pn sl dr kd bd yr lg cl ti).2.2.2.2))
def F_X5_layers_l86 (pn : Int32) (lp : Int32) (lw : Int32) (sh : Nat → Int32) (wa : Nat → Int32) (sp : Nat → Int32) (lg : Int32) (cl : Nat → Int32) (ti : Int32) (K_ : Int32 → Int32 × Int32 × Int32 × Int32 × (Nat → Int32) × (Nat → Int32) × (Nat → Int32)) : Nat → Int32 → Int32 × Int32 × Int32 × Int32 × (Nat → Int32) × (Nat → Int32) × (Nat → Int32)
  | 0, x7_86 => K_ x7_86
  | d86 + 1, x7_86 => (if pn ≤ x7_86 then (K_ x7_86) else (if (F_X5_isWish (F_X3_at lg cl (ti + x7_86))) = 0 then (if (F_X3_at lg cl (ti + x7_86)) = (6 : Int32) then (F_X5_layers_l86 pn lp lw sh wa sp lg cl ti K_ d86 (x7_86 + (1 : Int32))) else ((-2 : Int32), (0 : Int32), lp, lw, sh, wa, sp)) else (F_X5_layers_l86 pn lp lw sh wa sp lg cl ti K_ d86 (x7_86 + (1 : Int32)))))
def F_X5_layers (pn : Int32) (sl : Int32) (dr : Int32) (kd : Nat → Int32) (bd : Nat → Int32) (yr : Nat → Int32) (lp : Int32) (lw : Int32) (sh : Nat → Int32) (wa : Nat → Int32) (sp : Nat → Int32) (ln : Int32) (lg : Int32) (cl : Nat → Int32) (sk : Int32) (la : Int32) (ti : Int32) (k : Int32) : Int32 × Int32 × Int32 × Int32 × (Nat → Int32) × (Nat → Int32) × (Nat → Int32) :=
  (if (F_X5_isSheet sk) = 0 then ((-1 : Int32), (0 : Int32), lp, lw, sh, wa, sp) else (if (F_X5_isLane la) = 0 then ((-2 : Int32), (0 : Int32), lp, lw, sh, wa, sp) else (if k < (-1 : Int32) then ((-2 : Int32), (0 : Int32), lp, lw, sh, wa, sp) else (if k < (9 : Int32) then (if (F_X5_hasWell pn) = 0 then ((-3 : Int32), (0 : Int32), lp, lw, sh, wa, sp) else (if (F_X3_faultOfCells ln lg la ti pn) = 0 then (F_X5_layers_l86 pn lp lw sh wa sp lg cl ti (F_X5_layers_k86 pn sl dr kd bd yr sh wa sp lg cl ti k) 10 (0 : Int32)) else ((F_X5_failed (F_X3_faultOfCells ln lg la ti pn)).1, (F_X5_failed (F_X3_faultOfCells ln lg la ti pn)).2, lp, lw, sh, wa, sp))) else ((-2 : Int32), (0 : Int32), lp, lw, sh, wa, sp)))))
set_option maxHeartbeats 4000000 in
set_option maxRecDepth 100000 in
theorem c_X5_layers (l : Launch) (D : va_G) (cI cO : ClassId) (h5 : Nat) (ash : Nat) (tr : Int32) (ft : Int32) (hq : Nat → Option Nat) (h4 : Nat) (a1 : Nat) (a2 : Nat) (a3 : Nat) (pn : Int32) (sl : Int32) (dr : Int32) (nw : Int32) (kd : Nat → Int32) (bd : Nat → Int32) (yr : Nat → Int32) (h2 : Nat) (h0 : Nat) (h1 : Nat) (g1 : Nat) (g2 : Nat) (g3 : Nat) (lp : Int32) (lw : Int32) (sh : Nat → Int32) (wa : Nat → Int32) (sp : Nat → Int32) (h3 : Nat) (b1 : Nat) (ln : Int32) (lg : Int32) (cl : Nat → Int32) (sk : Int32) (la : Int32) (ti : Int32) (k : Int32) (np : Nat) (hsq : ¬ F_X5_isSheet sk = 0 → hq sk.toNatClampNeg = some h3) (hlg : lg ≤ 60) (hpn : pn = nI np) (hnp : np ≤ 9) : zW l yX5_layers wsX5_layers ({ frames := 3, cells := 0, slots := 0, locals := 68 } : Room) D cI cO [.ref h5, .int sk, .int la, .int ti, .int k] [(h5, .inr (5, [.ref h4, .ref h2, .ref h0, .ref h1, .ref ash, .int tr, .int ft])), (ash, .inl (cO, 4, .inr (.inr (.inr (.inr hq))))), (h4, .inr (4, [.ref a1, .ref a2, .ref a3, .int pn, .int sl, .int dr, .int nw])), (a1, .inl (cI, 9, .inl kd)), (a2, .inl (cI, 9, .inl bd)), (a3, .inl (cI, 9, .inl yr)), (h1, .inr (1, [.ref g1, .ref g2, .ref g3, .int lp, .int lw])), (g1, .inl (cI, 9, .inl sh)), (g2, .inl (cI, 9, .inl wa)), (g3, .inl (cI, 6, .inl sp)), (h3, .inr (3, [.ref b1, .int ln, .int lg])), (b1, .inl (cI, 60, .inl cl))] [(h5, .inr (5, [.ref h4, .ref h2, .ref h0, .ref h1, .ref ash, .int tr, .int ((F_X5_layers pn sl dr kd bd yr lp lw sh wa sp ln lg cl sk la ti k).2.1)])), (ash, .inl (cO, 4, .inr (.inr (.inr (.inr hq))))), (h4, .inr (4, [.ref a1, .ref a2, .ref a3, .int pn, .int sl, .int dr, .int nw])), (a1, .inl (cI, 9, .inl kd)), (a2, .inl (cI, 9, .inl bd)), (a3, .inl (cI, 9, .inl yr)), (h1, .inr (1, [.ref g1, .ref g2, .ref g3, .int ((F_X5_layers pn sl dr kd bd yr lp lw sh wa sp ln lg cl sk la ti k).2.2.1), .int ((F_X5_layers pn sl dr kd bd yr lp lw sh wa sp ln lg cl sk la ti k).2.2.2.1)])), (g1, .inl (cI, 9, .inl ((F_X5_layers pn sl dr kd bd yr lp lw sh wa sp ln lg cl sk la ti k).2.2.2.2.1))), (g2, .inl (cI, 9, .inl ((F_X5_layers pn sl dr kd bd yr lp lw sh wa sp ln lg cl sk la ti k).2.2.2.2.2.1))), (g3, .inl (cI, 6, .inl ((F_X5_layers pn sl dr kd bd yr lp lw sh wa sp ln lg cl sk la ti k).2.2.2.2.2.2))), (h3, .inr (3, [.ref b1, .int ln, .int lg])), (b1, .inl (cI, 60, .inl cl))] (some (.int ((F_X5_layers pn sl dr kd bd yr lp lw sh wa sp ln lg cl sk la ti k).1))) := by
  refine zW_of (nL := 9) (cc := cX5_layers) (ret := some .int) (lv := [(0, .ref h5), (1, .int sk), (2, .int la), (3, .int ti), (4, .int k)]) (by decide +kernel) rfl (Nat.le_of_ble_eq_true rfl) rfl (fun p e s m args below meth c C hr hlk => ?_)
  have hf := F_X5_layers.eq_1 pn sl dr kd bd yr lp lw sh wa sp ln lg cl sk la ti k
  refine z_aload_n C dX5_layers_0 rfl 0 rfl ?_
  refine z_iconst (v := (0 : Int32)) C dX5_layers_1 (by decide) ?_
  refine z_put (T := TX5) (ty := .int) C [(h5, .inr (5, [.ref h4, .ref h2, .ref h0, .ref h1, .ref ash, .int tr, .int (0 : Int32)])), (ash, .inl (cO, 4, .inr (.inr (.inr (.inr hq))))), (h4, .inr (4, [.ref a1, .ref a2, .ref a3, .int pn, .int sl, .int dr, .int nw])), (a1, .inl (cI, 9, .inl kd)), (a2, .inl (cI, 9, .inl bd)), (a3, .inl (cI, 9, .inl yr)), (h1, .inr (1, [.ref g1, .ref g2, .ref g3, .int lp, .int lw])), (g1, .inl (cI, 9, .inl sh)), (g2, .inl (cI, 9, .inl wa)), (g3, .inl (cI, 6, .inl sp)), (h3, .inr (3, [.ref b1, .int ln, .int lg])), (b1, .inl (cI, 60, .inl cl))] i_X5_layers_5 tyX5 tyX5_ok nmX5 0 rfl rfl 6 (by decide) m_X5_layers_1 rfl rfl (by decide +kernel) rfl rfl (Nat.le_of_ble_eq_true rfl) dX5_layers_2 rfl ?_
  refine z_iload_n C dX5_layers_5 rfl 1 rfl ?_
  refine z_cSR (As := [.int sk]) C (c_X5_isSheet l D cI cO sk) (va_cwS 1 C.2.2.2.2.1 gX5_layers_X5_isSheet rfl rfl rfl hdS_X5_isSheet ⟨Nat.le_of_ble_eq_true rfl, Nat.le_of_ble_eq_true rfl⟩) [] rfl rfl rfl _ rfl (Nat.le_of_ble_eq_true rfl) ⟨Nat.zero_le _, Nat.zero_le _⟩ dX5_layers_6 ?_
  generalize hu6 : (F_X5_isSheet sk) = u6 at hf ⊢
  refine z_if_ne (tgt := 14) C dX5_layers_9 (by decide) (fun c9 => ?_) (fun c9 => ?_)
  · rw [if_neg c9] at hf
    have b9 := c9
    rw [← hu6] at c9
    refine z_iload_n C dX5_layers_14 rfl 2 rfl ?_
    refine z_cSR (As := [.int la]) C (c_X5_isLane l D cI cO la) (va_cwS 1 C.2.2.2.2.1 gX5_layers_X5_isLane rfl rfl rfl hdS_X5_isLane ⟨Nat.le_of_ble_eq_true rfl, Nat.le_of_ble_eq_true rfl⟩) [] rfl rfl rfl _ rfl (Nat.le_of_ble_eq_true rfl) ⟨Nat.zero_le _, Nat.zero_le _⟩ dX5_layers_15 ?_
    generalize hu15 : (F_X5_isLane la) = u15 at hf ⊢
    refine z_if_eq (tgt := 34) C dX5_layers_18 (by decide) (fun c18 => ?_) (fun c18 => ?_)
    · rw [if_pos c18] at hf
      have b18 := c18
      rw [← hu15] at c18
      refine z_bipush (v := (-2 : Int32)) C dX5_layers_34 (by decide) ?_
      exact z_iretW C hr hlk (by rw [hf]) (by rw [hf]) dX5_layers_36
    · rw [if_neg c18] at hf
      have b18 := c18
      rw [← hu15] at c18
      refine z_iload C dX5_layers_21 4 rfl ?_
      refine z_iconst (v := (-1 : Int32)) C dX5_layers_23 (by decide) ?_
      refine z_icmp_lt (tgt := 34) C dX5_layers_24 (by decide) (fun c24 => ?_) (fun c24 => ?_)
      · rw [if_pos c24] at hf
        refine z_bipush (v := (-2 : Int32)) C dX5_layers_34 (by decide) ?_
        exact z_iretW C hr hlk (by rw [hf]) (by rw [hf]) dX5_layers_36
      · rw [if_neg c24] at hf
        refine z_iload C dX5_layers_27 4 rfl ?_
        refine z_bipush (v := (9 : Int32)) C dX5_layers_29 (by decide) ?_
        refine z_icmp_lt (tgt := 37) C dX5_layers_31 (by decide) (fun c31 => ?_) (fun c31 => ?_)
        · rw [if_pos c31] at hf
          refine z_aload_n C dX5_layers_37 rfl 0 rfl ?_
          refine z_cVR (As := []) C (c_X5_hasWell l D cI cO h5 ash tr (0 : Int32) h4 a1 a2 a3 pn sl dr nw h2 h0 h1) (cwV 0 C.2.2.2.2.1 gX5_layers_X5_hasWell rfl rfl rfl hdV_X5_hasWell ⟨Nat.le_of_ble_eq_true rfl, Nat.le_of_ble_eq_true rfl⟩) [0, 2] rfl rfl 0 rfl rfl rfl _ rfl (Nat.le_of_ble_eq_true rfl) ⟨Nat.zero_le _, Nat.zero_le _⟩ dX5_layers_38 ?_
          generalize hu38 : (F_X5_hasWell pn) = u38 at hf ⊢
          refine z_if_ne (tgt := 47) C dX5_layers_41 (by decide) (fun c41 => ?_) (fun c41 => ?_)
          · rw [if_neg c41] at hf
            have b41 := c41
            rw [← hu38] at c41
            refine z_aload_n C dX5_layers_47 rfl 0 rfl ?_
            refine z_get (T := TX5) (v := .ref ash) C i_X5_layers_5 0 rfl rfl 4 (by decide) m_X5_layers_2 rfl rfl dX5_layers_48 ?_
            refine z_iload_n C dX5_layers_51 rfl 1 rfl ?_
            refine z_aldq (b := h3) C 1 rfl (by subst hu38 hu15 hu6; exact (isSheet_ix c9)) (by subst hu38 hu15 hu6; exact (hsq c9)) dX5_layers_52 ?_
            refine z_astore C [(0, .ref h5), (1, .int sk), (2, .int la), (3, .int ti), (4, .int k), (5, .ref h3)] dX5_layers_53 (by decide) [1, 2, 3, 4, 5, 0] rfl ?_
            refine z_aload C dX5_layers_55 5 rfl ?_
            refine z_iload_n C dX5_layers_57 rfl 2 rfl ?_
            refine z_iload_n C dX5_layers_58 rfl 3 rfl ?_
            refine z_aload_n C dX5_layers_59 rfl 0 rfl ?_
            refine z_get (T := TX5) (v := .ref h4) C i_X5_layers_5 0 rfl rfl 0 (by decide) m_X5_layers_3 rfl rfl dX5_layers_60 ?_
            refine z_get (T := TX4) (v := .int pn) C i_X5_layers_4 2 rfl rfl 3 (by decide) m_X5_layers_4 rfl rfl dX5_layers_63 ?_
            refine z_cVR (As := [.int la, .int ti, .int pn]) C (c_X3_faultOfCells l D cI cO h3 b1 ln lg la ti pn) (cwV 3 C.2.2.2.2.1 gX5_layers_X3_faultOfCells rfl rfl rfl hdV_X3_faultOfCells ⟨Nat.le_of_ble_eq_true rfl, Nat.le_of_ble_eq_true rfl⟩) [10] rfl rfl 10 rfl rfl rfl _ rfl (Nat.le_of_ble_eq_true rfl) ⟨Nat.zero_le _, Nat.zero_le _⟩ dX5_layers_66 ?_
            generalize hu66 : (F_X3_faultOfCells ln lg la ti pn) = u66 at hf ⊢
            refine z_istore C [(0, .ref h5), (1, .int sk), (2, .int la), (3, .int ti), (4, .int k), (5, .ref h3), (6, .int u66)] dX5_layers_69 (by decide) [1, 2, 3, 4, 5, 6, 0] rfl ?_
            refine z_iload C dX5_layers_71 6 rfl ?_
            refine z_if_eq (tgt := 83) C dX5_layers_73 (by decide) (fun c73 => ?_) (fun c73 => ?_)
            · rw [if_pos c73] at hf
              have b73 := c73
              rw [← hu66] at c73
              refine z_iconst (v := (0 : Int32)) C dX5_layers_83 (by decide) ?_
              refine z_istore C [(0, .ref h5), (1, .int sk), (2, .int la), (3, .int ti), (4, .int k), (5, .ref h3), (6, .int u66), (7, .int (0 : Int32))] dX5_layers_84 (by decide) [1, 2, 3, 4, 5, 6, 7, 0] rfl ?_
              have X86 : ∀ (x7_86 : Int32), F_X5_layers pn sl dr kd bd yr lp lw sh wa sp ln lg cl sk la ti k = (F_X5_layers_k86 pn sl dr kd bd yr sh wa sp lg cl ti k) x7_86 → zG p l e ({ frames := 3, cells := 0, slots := 0, locals := 68 } : Room) s m args below meth c D (zA [(h5, .inr (5, [.ref h4, .ref h2, .ref h0, .ref h1, .ref ash, .int tr, .int ft])), (ash, .inl (cO, 4, .inr (.inr (.inr (.inr hq))))), (h4, .inr (4, [.ref a1, .ref a2, .ref a3, .int pn, .int sl, .int dr, .int nw])), (a1, .inl (cI, 9, .inl kd)), (a2, .inl (cI, 9, .inl bd)), (a3, .inl (cI, 9, .inl yr)), (h1, .inr (1, [.ref g1, .ref g2, .ref g3, .int lp, .int lw])), (g1, .inl (cI, 9, .inl sh)), (g2, .inl (cI, 9, .inl wa)), (g3, .inl (cI, 6, .inl sp)), (h3, .inr (3, [.ref b1, .int ln, .int lg])), (b1, .inl (cI, 60, .inl cl))]) (zXw (zA [(h5, .inr (5, [.ref h4, .ref h2, .ref h0, .ref h1, .ref ash, .int tr, .int ft])), (ash, .inl (cO, 4, .inr (.inr (.inr (.inr hq))))), (h4, .inr (4, [.ref a1, .ref a2, .ref a3, .int pn, .int sl, .int dr, .int nw])), (a1, .inl (cI, 9, .inl kd)), (a2, .inl (cI, 9, .inl bd)), (a3, .inl (cI, 9, .inl yr)), (h1, .inr (1, [.ref g1, .ref g2, .ref g3, .int lp, .int lw])), (g1, .inl (cI, 9, .inl sh)), (g2, .inl (cI, 9, .inl wa)), (g3, .inl (cI, 6, .inl sp)), (h3, .inr (3, [.ref b1, .int ln, .int lg])), (b1, .inl (cI, 60, .inl cl))]) s.heap) 9 0 0 (MQ below (zQw D [(h5, .inr (5, [.ref h4, .ref h2, .ref h0, .ref h1, .ref ash, .int tr, .int ((F_X5_layers pn sl dr kd bd yr lp lw sh wa sp ln lg cl sk la ti k).2.1)])), (ash, .inl (cO, 4, .inr (.inr (.inr (.inr hq))))), (h4, .inr (4, [.ref a1, .ref a2, .ref a3, .int pn, .int sl, .int dr, .int nw])), (a1, .inl (cI, 9, .inl kd)), (a2, .inl (cI, 9, .inl bd)), (a3, .inl (cI, 9, .inl yr)), (h1, .inr (1, [.ref g1, .ref g2, .ref g3, .int ((F_X5_layers pn sl dr kd bd yr lp lw sh wa sp ln lg cl sk la ti k).2.2.1), .int ((F_X5_layers pn sl dr kd bd yr lp lw sh wa sp ln lg cl sk la ti k).2.2.2.1)])), (g1, .inl (cI, 9, .inl ((F_X5_layers pn sl dr kd bd yr lp lw sh wa sp ln lg cl sk la ti k).2.2.2.2.1))), (g2, .inl (cI, 9, .inl ((F_X5_layers pn sl dr kd bd yr lp lw sh wa sp ln lg cl sk la ti k).2.2.2.2.2.1))), (g3, .inl (cI, 6, .inl ((F_X5_layers pn sl dr kd bd yr lp lw sh wa sp ln lg cl sk la ti k).2.2.2.2.2.2))), (h3, .inr (3, [.ref b1, .int ln, .int lg])), (b1, .inl (cI, 60, .inl cl))] (zA [(h5, .inr (5, [.ref h4, .ref h2, .ref h0, .ref h1, .ref ash, .int tr, .int ft])), (ash, .inl (cO, 4, .inr (.inr (.inr (.inr hq))))), (h4, .inr (4, [.ref a1, .ref a2, .ref a3, .int pn, .int sl, .int dr, .int nw])), (a1, .inl (cI, 9, .inl kd)), (a2, .inl (cI, 9, .inl bd)), (a3, .inl (cI, 9, .inl yr)), (h1, .inr (1, [.ref g1, .ref g2, .ref g3, .int lp, .int lw])), (g1, .inl (cI, 9, .inl sh)), (g2, .inl (cI, 9, .inl wa)), (g3, .inl (cI, 6, .inl sp)), (h3, .inr (3, [.ref b1, .int ln, .int lg])), (b1, .inl (cI, 60, .inl cl))]) (some (.int ((F_X5_layers pn sl dr kd bd yr lp lw sh wa sp ln lg cl sk la ti k).1)))) args s 0 0 (zA [(h5, .inr (5, [.ref h4, .ref h2, .ref h0, .ref h1, .ref ash, .int tr, .int ft])), (ash, .inl (cO, 4, .inr (.inr (.inr (.inr hq))))), (h4, .inr (4, [.ref a1, .ref a2, .ref a3, .int pn, .int sl, .int dr, .int nw])), (a1, .inl (cI, 9, .inl kd)), (a2, .inl (cI, 9, .inl bd)), (a3, .inl (cI, 9, .inl yr)), (h1, .inr (1, [.ref g1, .ref g2, .ref g3, .int lp, .int lw])), (g1, .inl (cI, 9, .inl sh)), (g2, .inl (cI, 9, .inl wa)), (g3, .inl (cI, 6, .inl sp)), (h3, .inr (3, [.ref b1, .int ln, .int lg])), (b1, .inl (cI, 60, .inl cl))])) 133 [(0, .ref h5), (1, .int sk), (2, .int la), (3, .int ti), (4, .int k), (5, .ref h3), (6, .int u66), (7, .int x7_86)] [] [(h5, .inr (5, [.ref h4, .ref h2, .ref h0, .ref h1, .ref ash, .int tr, .int (0 : Int32)])), (ash, .inl (cO, 4, .inr (.inr (.inr (.inr hq))))), (h4, .inr (4, [.ref a1, .ref a2, .ref a3, .int pn, .int sl, .int dr, .int nw])), (a1, .inl (cI, 9, .inl kd)), (a2, .inl (cI, 9, .inl bd)), (a3, .inl (cI, 9, .inl yr)), (h1, .inr (1, [.ref g1, .ref g2, .ref g3, .int lp, .int lw])), (g1, .inl (cI, 9, .inl sh)), (g2, .inl (cI, 9, .inl wa)), (g3, .inl (cI, 6, .inl sp)), (h3, .inr (3, [.ref b1, .int ln, .int lg])), (b1, .inl (cI, 60, .inl cl))] := by
                intro x7_86 hf
                rw [F_X5_layers_k86] at hf
                skip
                refine z_aload_n C dX5_layers_133 rfl 0 rfl ?_
                refine z_get (T := TX5) (v := .ref h1) C i_X5_layers_5 0 rfl rfl 3 (by decide) m_X5_layers_5 rfl rfl dX5_layers_134 ?_
                refine z_aload_n C dX5_layers_137 rfl 0 rfl ?_
                refine z_get (T := TX5) (v := .ref h4) C i_X5_layers_5 0 rfl rfl 0 (by decide) m_X5_layers_3 rfl rfl dX5_layers_138 ?_
                refine z_aload C dX5_layers_141 5 rfl ?_
                refine z_iload_n C dX5_layers_143 rfl 3 rfl ?_
                refine z_cVW (As := [.ref h4, .ref h3, .int ti]) C (c_X1_ask l D cI cO h1 g1 g2 g3 lp lw sh wa sp h4 a1 a2 a3 pn sl dr nw kd bd yr h3 b1 ln lg cl ti np (by subst hu66 hu38 hu15 hu6; exact hlg) (by subst hu66 hu38 hu15 hu6; exact hpn) (by subst hu66 hu38 hu15 hu6; exact hnp)) (cwV 3 C.2.2.2.2.1 gX5_layers_X1_ask rfl rfl rfl hdV_X1_ask ⟨Nat.le_of_ble_eq_true rfl, Nat.le_of_ble_eq_true rfl⟩) [(h5, .inr (5, [.ref h4, .ref h2, .ref h0, .ref h1, .ref ash, .int tr, .int (0 : Int32)])), (ash, .inl (cO, 4, .inr (.inr (.inr (.inr hq))))), (h4, .inr (4, [.ref a1, .ref a2, .ref a3, .int pn, .int sl, .int dr, .int nw])), (a1, .inl (cI, 9, .inl kd)), (a2, .inl (cI, 9, .inl bd)), (a3, .inl (cI, 9, .inl yr)), (h1, .inr (1, [.ref g1, .ref g2, .ref g3, .int ((F_X1_ask sh wa sp pn sl dr kd bd yr lg cl ti).1), .int ((F_X1_ask sh wa sp pn sl dr kd bd yr lg cl ti).2.1)])), (g1, .inl (cI, 9, .inl ((F_X1_ask sh wa sp pn sl dr kd bd yr lg cl ti).2.2.1))), (g2, .inl (cI, 9, .inl ((F_X1_ask sh wa sp pn sl dr kd bd yr lg cl ti).2.2.2.1))), (g3, .inl (cI, 6, .inl ((F_X1_ask sh wa sp pn sl dr kd bd yr lg cl ti).2.2.2.2))), (h3, .inr (3, [.ref b1, .int ln, .int lg])), (b1, .inl (cI, 60, .inl cl))] [6, 7, 8, 9, 2, 3, 4, 5, 10, 11] rfl rfl (Eq.refl [h1, g1, g2, g3, h4, a1, a2, a3, h3, b1]) rfl 6 rfl rfl rfl _ rfl (Nat.le_of_ble_eq_true rfl) ⟨Nat.zero_le _, Nat.zero_le _⟩ dX5_layers_144 ?_
                generalize hu144 : (F_X1_ask sh wa sp pn sl dr kd bd yr lg cl ti) = u144 at hf ⊢
                refine z_iload C dX5_layers_147 4 rfl ?_
                refine z_if_ge (tgt := 162) C dX5_layers_149 (by decide) (fun c149 => ?_) (fun c149 => ?_)
                · rw [if_pos c149] at hf
                  refine z_aload_n C dX5_layers_162 rfl 0 rfl ?_
                  refine z_get (T := TX5) (v := .ref h1) C i_X5_layers_5 0 rfl rfl 3 (by decide) m_X5_layers_5 rfl rfl dX5_layers_163 ?_
                  refine z_iload C dX5_layers_166 4 rfl ?_
                  refine z_cVW (As := [.int k]) C (c_X1_firstAt l D cI cO h1 g1 g2 g3 u144.1 u144.2.1 u144.2.2.1 u144.2.2.2.1 u144.2.2.2.2 k np (by subst hu144 hu66 hu38 hu15 hu6; exact (ask_np hpn hnp).1) (by subst hu144 hu66 hu38 hu15 hu6; exact hnp) (by subst hu144 hu66 hu38 hu15 hu6; exact (ask_np hpn hnp).2)) (cwV 1 C.2.2.2.2.1 gX5_layers_X1_firstAt rfl rfl rfl hdV_X1_firstAt ⟨Nat.le_of_ble_eq_true rfl, Nat.le_of_ble_eq_true rfl⟩) [(h5, .inr (5, [.ref h4, .ref h2, .ref h0, .ref h1, .ref ash, .int tr, .int (0 : Int32)])), (ash, .inl (cO, 4, .inr (.inr (.inr (.inr hq))))), (h4, .inr (4, [.ref a1, .ref a2, .ref a3, .int pn, .int sl, .int dr, .int nw])), (a1, .inl (cI, 9, .inl kd)), (a2, .inl (cI, 9, .inl bd)), (a3, .inl (cI, 9, .inl yr)), (h1, .inr (1, [.ref g1, .ref g2, .ref g3, .int u144.1, .int u144.2.1])), (g1, .inl (cI, 9, .inl u144.2.2.1)), (g2, .inl (cI, 9, .inl u144.2.2.2.1)), (g3, .inl (cI, 6, .inl ((F_X1_firstAt u144.1 u144.2.1 u144.2.2.1 u144.2.2.2.1 u144.2.2.2.2 k).2))), (h3, .inr (3, [.ref b1, .int ln, .int lg])), (b1, .inl (cI, 60, .inl cl))] [6, 7, 8, 9] rfl rfl (Eq.refl [h1, g1, g2, g3]) rfl 6 rfl rfl rfl _ rfl (Nat.le_of_ble_eq_true rfl) ⟨Nat.zero_le _, Nat.zero_le _⟩ dX5_layers_168 ?_
                  generalize hu168 : (F_X1_firstAt u144.1 u144.2.1 u144.2.2.1 u144.2.2.2.1 u144.2.2.2.2 k) = u168 at hf ⊢
                  exact z_iretW C hr hlk (by rw [hf]) (by rw [hf]) dX5_layers_171
                · rw [if_neg c149] at hf
                  refine z_aload_n C dX5_layers_152 rfl 0 rfl ?_
                  refine z_get (T := TX5) (v := .ref h1) C i_X5_layers_5 0 rfl rfl 3 (by decide) m_X5_layers_5 rfl rfl dX5_layers_153 ?_
                  refine z_get (T := TX1) (v := .int u144.2.1) C i_X5_layers_1 6 rfl rfl 4 (by decide) m_X5_layers_6 rfl rfl dX5_layers_156 ?_
                  refine z_goto (tgt := 171) C dX5_layers_159 (by decide) ?_
                  exact z_iretW C hr hlk (by rw [hf]) (by rw [hf]) dX5_layers_171
              have L86 : ∀ (d86 : Nat) (j : Nat) (x7_86 : Int32) (e7 : x7_86 = nI j) (hj : j ≤ np) (hd : np < j + d86), F_X5_layers pn sl dr kd bd yr lp lw sh wa sp ln lg cl sk la ti k = F_X5_layers_l86 pn lp lw sh wa sp lg cl ti (F_X5_layers_k86 pn sl dr kd bd yr sh wa sp lg cl ti k) d86 x7_86 → zG p l e ({ frames := 3, cells := 0, slots := 0, locals := 68 } : Room) s m args below meth c D (zA [(h5, .inr (5, [.ref h4, .ref h2, .ref h0, .ref h1, .ref ash, .int tr, .int ft])), (ash, .inl (cO, 4, .inr (.inr (.inr (.inr hq))))), (h4, .inr (4, [.ref a1, .ref a2, .ref a3, .int pn, .int sl, .int dr, .int nw])), (a1, .inl (cI, 9, .inl kd)), (a2, .inl (cI, 9, .inl bd)), (a3, .inl (cI, 9, .inl yr)), (h1, .inr (1, [.ref g1, .ref g2, .ref g3, .int lp, .int lw])), (g1, .inl (cI, 9, .inl sh)), (g2, .inl (cI, 9, .inl wa)), (g3, .inl (cI, 6, .inl sp)), (h3, .inr (3, [.ref b1, .int ln, .int lg])), (b1, .inl (cI, 60, .inl cl))]) (zXw (zA [(h5, .inr (5, [.ref h4, .ref h2, .ref h0, .ref h1, .ref ash, .int tr, .int ft])), (ash, .inl (cO, 4, .inr (.inr (.inr (.inr hq))))), (h4, .inr (4, [.ref a1, .ref a2, .ref a3, .int pn, .int sl, .int dr, .int nw])), (a1, .inl (cI, 9, .inl kd)), (a2, .inl (cI, 9, .inl bd)), (a3, .inl (cI, 9, .inl yr)), (h1, .inr (1, [.ref g1, .ref g2, .ref g3, .int lp, .int lw])), (g1, .inl (cI, 9, .inl sh)), (g2, .inl (cI, 9, .inl wa)), (g3, .inl (cI, 6, .inl sp)), (h3, .inr (3, [.ref b1, .int ln, .int lg])), (b1, .inl (cI, 60, .inl cl))]) s.heap) 9 0 0 (MQ below (zQw D [(h5, .inr (5, [.ref h4, .ref h2, .ref h0, .ref h1, .ref ash, .int tr, .int ((F_X5_layers pn sl dr kd bd yr lp lw sh wa sp ln lg cl sk la ti k).2.1)])), (ash, .inl (cO, 4, .inr (.inr (.inr (.inr hq))))), (h4, .inr (4, [.ref a1, .ref a2, .ref a3, .int pn, .int sl, .int dr, .int nw])), (a1, .inl (cI, 9, .inl kd)), (a2, .inl (cI, 9, .inl bd)), (a3, .inl (cI, 9, .inl yr)), (h1, .inr (1, [.ref g1, .ref g2, .ref g3, .int ((F_X5_layers pn sl dr kd bd yr lp lw sh wa sp ln lg cl sk la ti k).2.2.1), .int ((F_X5_layers pn sl dr kd bd yr lp lw sh wa sp ln lg cl sk la ti k).2.2.2.1)])), (g1, .inl (cI, 9, .inl ((F_X5_layers pn sl dr kd bd yr lp lw sh wa sp ln lg cl sk la ti k).2.2.2.2.1))), (g2, .inl (cI, 9, .inl ((F_X5_layers pn sl dr kd bd yr lp lw sh wa sp ln lg cl sk la ti k).2.2.2.2.2.1))), (g3, .inl (cI, 6, .inl ((F_X5_layers pn sl dr kd bd yr lp lw sh wa sp ln lg cl sk la ti k).2.2.2.2.2.2))), (h3, .inr (3, [.ref b1, .int ln, .int lg])), (b1, .inl (cI, 60, .inl cl))] (zA [(h5, .inr (5, [.ref h4, .ref h2, .ref h0, .ref h1, .ref ash, .int tr, .int ft])), (ash, .inl (cO, 4, .inr (.inr (.inr (.inr hq))))), (h4, .inr (4, [.ref a1, .ref a2, .ref a3, .int pn, .int sl, .int dr, .int nw])), (a1, .inl (cI, 9, .inl kd)), (a2, .inl (cI, 9, .inl bd)), (a3, .inl (cI, 9, .inl yr)), (h1, .inr (1, [.ref g1, .ref g2, .ref g3, .int lp, .int lw])), (g1, .inl (cI, 9, .inl sh)), (g2, .inl (cI, 9, .inl wa)), (g3, .inl (cI, 6, .inl sp)), (h3, .inr (3, [.ref b1, .int ln, .int lg])), (b1, .inl (cI, 60, .inl cl))]) (some (.int ((F_X5_layers pn sl dr kd bd yr lp lw sh wa sp ln lg cl sk la ti k).1)))) args s 0 0 (zA [(h5, .inr (5, [.ref h4, .ref h2, .ref h0, .ref h1, .ref ash, .int tr, .int ft])), (ash, .inl (cO, 4, .inr (.inr (.inr (.inr hq))))), (h4, .inr (4, [.ref a1, .ref a2, .ref a3, .int pn, .int sl, .int dr, .int nw])), (a1, .inl (cI, 9, .inl kd)), (a2, .inl (cI, 9, .inl bd)), (a3, .inl (cI, 9, .inl yr)), (h1, .inr (1, [.ref g1, .ref g2, .ref g3, .int lp, .int lw])), (g1, .inl (cI, 9, .inl sh)), (g2, .inl (cI, 9, .inl wa)), (g3, .inl (cI, 6, .inl sp)), (h3, .inr (3, [.ref b1, .int ln, .int lg])), (b1, .inl (cI, 60, .inl cl))])) 86 [(0, .ref h5), (1, .int sk), (2, .int la), (3, .int ti), (4, .int k), (5, .ref h3), (6, .int u66), (7, .int x7_86)] [] [(h5, .inr (5, [.ref h4, .ref h2, .ref h0, .ref h1, .ref ash, .int tr, .int (0 : Int32)])), (ash, .inl (cO, 4, .inr (.inr (.inr (.inr hq))))), (h4, .inr (4, [.ref a1, .ref a2, .ref a3, .int pn, .int sl, .int dr, .int nw])), (a1, .inl (cI, 9, .inl kd)), (a2, .inl (cI, 9, .inl bd)), (a3, .inl (cI, 9, .inl yr)), (h1, .inr (1, [.ref g1, .ref g2, .ref g3, .int lp, .int lw])), (g1, .inl (cI, 9, .inl sh)), (g2, .inl (cI, 9, .inl wa)), (g3, .inl (cI, 6, .inl sp)), (h3, .inr (3, [.ref b1, .int ln, .int lg])), (b1, .inl (cI, 60, .inl cl))] := by
                intro d86
                induction d86 with
                | zero =>
                  intro j x7_86 e7 hj hd hf
                  exfalso; omega
                | succ d86 ih86 =>
                  intro j x7_86 e7 hj hd hf
                  rw [F_X5_layers_l86] at hf
                  skip
                  refine z_iload C dX5_layers_86 7 rfl ?_
                  refine z_aload_n C dX5_layers_88 rfl 0 rfl ?_
                  refine z_get (T := TX5) (v := .ref h4) C i_X5_layers_5 0 rfl rfl 0 (by decide) m_X5_layers_3 rfl rfl dX5_layers_89 ?_
                  refine z_get (T := TX4) (v := .int pn) C i_X5_layers_4 2 rfl rfl 3 (by decide) m_X5_layers_4 rfl rfl dX5_layers_92 ?_
                  refine z_icmp_ge (tgt := 133) C dX5_layers_95 (by decide) (fun c95 => ?_) (fun c95 => ?_)
                  · rw [if_pos c95] at hf
                    exact X86 x7_86  hf
                  · rw [if_neg c95] at hf
                    refine z_aload C dX5_layers_98 5 rfl ?_
                    refine z_iload_n C dX5_layers_100 rfl 3 rfl ?_
                    refine z_iload C dX5_layers_101 7 rfl ?_
                    refine z_iadd C dX5_layers_103 ?_
                    refine z_cVR (As := [.int (ti + x7_86)]) C (c_X3_at l D cI cO h3 b1 ln lg cl (ti + x7_86) (by subst hu66 hu38 hu15 hu6; exact hlg)) (cwV 1 C.2.2.2.2.1 gX5_layers_X3_at rfl rfl rfl hdV_X3_at ⟨Nat.le_of_ble_eq_true rfl, Nat.le_of_ble_eq_true rfl⟩) [10, 11] rfl rfl 10 rfl rfl rfl _ rfl (Nat.le_of_ble_eq_true rfl) ⟨Nat.zero_le _, Nat.zero_le _⟩ dX5_layers_104 ?_
                    generalize hu104 : (F_X3_at lg cl (ti + x7_86)) = u104 at hf ⊢
                    refine z_istore C [(0, .ref h5), (1, .int sk), (2, .int la), (3, .int ti), (4, .int k), (5, .ref h3), (6, .int u66), (7, .int x7_86), (8, .int u104)] dX5_layers_107 (by decide) [1, 2, 3, 4, 5, 6, 7, 8, 0] rfl ?_
                    refine z_iload C dX5_layers_109 8 rfl ?_
                    refine z_cSR (As := [.int u104]) C (c_X5_isWish l D cI cO u104) (va_cwS 1 C.2.2.2.2.1 gX5_layers_X5_isWish rfl rfl rfl hdS_X5_isWish ⟨Nat.le_of_ble_eq_true rfl, Nat.le_of_ble_eq_true rfl⟩) [] rfl rfl rfl _ rfl (Nat.le_of_ble_eq_true rfl) ⟨Nat.zero_le _, Nat.zero_le _⟩ dX5_layers_111 ?_
                    generalize hu111 : (F_X5_isWish u104) = u111 at hf ⊢
                    refine z_if_ne (tgt := 127) C dX5_layers_114 (by decide) (fun c114 => ?_) (fun c114 => ?_)
                    · rw [if_neg c114] at hf
                      have b114 := c114
                      rw [← hu111] at c114
                      refine z_iinc (v := (x7_86 + (1 : Int32))) C [(0, .ref h5), (1, .int sk), (2, .int la), (3, .int ti), (4, .int k), (5, .ref h3), (6, .int u66), (7, .int (x7_86 + (1 : Int32))), (8, .int u104)] dX5_layers_127 7 rfl (by rfl) (by decide) [1, 2, 3, 4, 5, 6, 7, 0, 8] rfl ?_
                      refine z_goto (tgt := 86) C dX5_layers_130 (by decide) ?_
                      refine z_ls [(0, .ref h5), (1, .int sk), (2, .int la), (3, .int ti), (4, .int k), (5, .ref h3), (6, .int u66), (7, .int (x7_86 + (1 : Int32)))] [0, 1, 2, 3, 4, 5, 6, 7] rfl ?_
                      exact ih86 (j + 1) (x7_86 + (1 : Int32)) (by subst hu111 hu104 hu66 hu38 hu15 hu6; exact (by rw [e7]; exact nI_1 j)) (by subst hu111 hu104 hu66 hu38 hu15 hu6; exact (by have := z_jlt e7 (by omega) (z_tiN hpn (by omega)) c95; omega)) (by omega) hf
                    · rw [if_pos c114] at hf
                      have b114 := c114
                      rw [← hu111] at c114
                      refine z_iload C dX5_layers_117 8 rfl ?_
                      refine z_bipush (v := (6 : Int32)) C dX5_layers_119 (by decide) ?_
                      refine z_icmp_eq (tgt := 127) C dX5_layers_121 (by decide) (fun c121 => ?_) (fun c121 => ?_)
                      · rw [if_pos c121] at hf
                        have b121 := c121
                        rw [← hu104] at c121
                        refine z_iinc (v := (x7_86 + (1 : Int32))) C [(0, .ref h5), (1, .int sk), (2, .int la), (3, .int ti), (4, .int k), (5, .ref h3), (6, .int u66), (7, .int (x7_86 + (1 : Int32))), (8, .int u104)] dX5_layers_127 7 rfl (by rfl) (by decide) [1, 2, 3, 4, 5, 6, 7, 0, 8] rfl ?_
                        refine z_goto (tgt := 86) C dX5_layers_130 (by decide) ?_
                        refine z_ls [(0, .ref h5), (1, .int sk), (2, .int la), (3, .int ti), (4, .int k), (5, .ref h3), (6, .int u66), (7, .int (x7_86 + (1 : Int32)))] [0, 1, 2, 3, 4, 5, 6, 7] rfl ?_
                        exact ih86 (j + 1) (x7_86 + (1 : Int32)) (by subst hu111 hu104 hu66 hu38 hu15 hu6; exact (by rw [e7]; exact nI_1 j)) (by subst hu111 hu104 hu66 hu38 hu15 hu6; exact (by have := z_jlt e7 (by omega) (z_tiN hpn (by omega)) c95; omega)) (by omega) hf
                      · rw [if_neg c121] at hf
                        have b121 := c121
                        rw [← hu104] at c121
                        refine z_bipush (v := (-2 : Int32)) C dX5_layers_124 (by decide) ?_
                        exact z_iretW C hr hlk (by rw [hf]) (by rw [hf]) dX5_layers_126
              exact L86 10 0 (0 : Int32) (by subst hu66 hu38 hu15 hu6; exact nI_0.symm) (by subst hu66 hu38 hu15 hu6; exact (Nat.zero_le _)) (by omega) hf
            · rw [if_neg c73] at hf
              have b73 := c73
              rw [← hu66] at c73
              refine z_aload_n C dX5_layers_76 rfl 0 rfl ?_
              refine z_iload C dX5_layers_77 6 rfl ?_
              refine z_cVW (As := [.int u66]) C (c_X5_failed l D cI cO h5 ash tr (0 : Int32) h4 h2 h0 h1 u66) (cwV 1 C.2.2.2.2.1 gX5_layers_X5_failed rfl rfl rfl hdV_X5_failed ⟨Nat.le_of_ble_eq_true rfl, Nat.le_of_ble_eq_true rfl⟩) [(h5, .inr (5, [.ref h4, .ref h2, .ref h0, .ref h1, .ref ash, .int tr, .int ((F_X5_failed u66).2)])), (ash, .inl (cO, 4, .inr (.inr (.inr (.inr hq))))), (h4, .inr (4, [.ref a1, .ref a2, .ref a3, .int pn, .int sl, .int dr, .int nw])), (a1, .inl (cI, 9, .inl kd)), (a2, .inl (cI, 9, .inl bd)), (a3, .inl (cI, 9, .inl yr)), (h1, .inr (1, [.ref g1, .ref g2, .ref g3, .int lp, .int lw])), (g1, .inl (cI, 9, .inl sh)), (g2, .inl (cI, 9, .inl wa)), (g3, .inl (cI, 6, .inl sp)), (h3, .inr (3, [.ref b1, .int ln, .int lg])), (b1, .inl (cI, 60, .inl cl))] [0] rfl rfl (Eq.refl [h5]) rfl 0 rfl rfl rfl _ rfl (Nat.le_of_ble_eq_true rfl) ⟨Nat.zero_le _, Nat.zero_le _⟩ dX5_layers_79 ?_
              generalize hu79 : (F_X5_failed u66) = u79 at hf ⊢
              exact z_iretW C hr hlk (by rw [hf]) (by rw [hf]) dX5_layers_82
          · rw [if_pos c41] at hf
            have b41 := c41
            rw [← hu38] at c41
            refine z_bipush (v := (-3 : Int32)) C dX5_layers_44 (by decide) ?_
            exact z_iretW C hr hlk (by rw [hf]) (by rw [hf]) dX5_layers_46
        · rw [if_neg c31] at hf
          refine z_bipush (v := (-2 : Int32)) C dX5_layers_34 (by decide) ?_
          exact z_iretW C hr hlk (by rw [hf]) (by rw [hf]) dX5_layers_36
  · rw [if_pos c9] at hf
    have b9 := c9
    rw [← hu6] at c9
    refine z_iconst (v := (-1 : Int32)) C dX5_layers_12 (by decide) ?_
    exact z_iretW C hr hlk (by rw [hf]) (by rw [hf]) dX5_layers_13
