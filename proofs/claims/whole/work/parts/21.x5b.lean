-- X5_ofPin
theorem i_X5_ofPin_5 : ∀ w ∈ u_ws RX5 TX5 7, w ∈ wsX5_ofPin := by decide +kernel
theorem m_X5_ofPin_1 : Cond.fieldLink RX5 12 "WishPins" "lying" "LWishPins$Well;" ∈ wsX5_ofPin := List.mem_of_getElem? (i := 1) rfl
theorem i_X5_ofPin_4 : ∀ w ∈ u_ws RX4 TX4 7, w ∈ wsX5_ofPin := by decide +kernel
theorem m_X5_ofPin_2 : Cond.fieldLink RX5 101 "WishPins$Well" "now" "I" ∈ wsX5_ofPin := List.mem_of_getElem? (i := 2) rfl
def F_X5_ofPin (pn : Int32) (sl : Int32) (dr : Int32) (nw : Int32) (kd : Nat → Int32) (bd : Nat → Int32) (yr : Nat → Int32) (k : Int32) (w : Int32) : Int32 :=
  (if (F_X4_isPin pn k) = 0 then (-1 : Int32) else (if w = (0 : Int32) then (F_X4_kindAt pn kd k) else (if w = (1 : Int32) then (F_X4_bendAt pn bd k) else (if w = (2 : Int32) then (F_X4_yearAt pn yr k) else (if w = (3 : Int32) then (F_X5_turnOf (F_X4_kindAt pn kd k) (F_X4_bendAt pn bd k)) else (if w = (4 : Int32) then (F_X4_wishAt pn sl dr kd bd yr k) else (if w = (5 : Int32) then (nw - (F_X4_yearAt pn yr k)) else (-2 : Int32))))))))
set_option maxHeartbeats 4000000 in
set_option maxRecDepth 100000 in
theorem c_X5_ofPin (l : Launch) (D : va_G) (cI cO : ClassId) (h5 : Nat) (ash : Nat) (tr : Int32) (ft : Int32) (h4 : Nat) (a1 : Nat) (a2 : Nat) (a3 : Nat) (pn : Int32) (sl : Int32) (dr : Int32) (nw : Int32) (kd : Nat → Int32) (bd : Nat → Int32) (yr : Nat → Int32) (h2 : Nat) (h0 : Nat) (h1 : Nat) (k : Int32) (w : Int32) : zR l yX5_ofPin wsX5_ofPin ({ frames := 2, cells := 0, slots := 0, locals := 44 } : Room) D cI cO [.ref h5, .int k, .int w] [(h5, .inr (5, [.ref h4, .ref h2, .ref h0, .ref h1, .ref ash, .int tr, .int ft])), (h4, .inr (4, [.ref a1, .ref a2, .ref a3, .int pn, .int sl, .int dr, .int nw])), (a1, .inl (cI, 9, .inl kd)), (a2, .inl (cI, 9, .inl bd)), (a3, .inl (cI, 9, .inl yr))] (some (.int (F_X5_ofPin pn sl dr nw kd bd yr k w))) := by
  refine zR_of (nL := 3) (cc := cX5_ofPin) (ret := some .int) (lv := [(0, .ref h5), (1, .int k), (2, .int w)]) (by decide +kernel) rfl (Nat.le_of_ble_eq_true rfl) rfl (fun p e s m args below meth c C hr hlk => ?_)
  have hf := F_X5_ofPin.eq_1 pn sl dr nw kd bd yr k w
  refine z_aload_n C dX5_ofPin_0 rfl 0 rfl ?_
  refine z_get (T := TX5) (v := .ref h4) C i_X5_ofPin_5 0 rfl rfl 0 (by decide) m_X5_ofPin_1 rfl rfl dX5_ofPin_1 ?_
  refine z_iload_n C dX5_ofPin_4 rfl 1 rfl ?_
  refine z_cVR (As := [.int k]) C (c_X4_isPin l D cI cO h4 a1 a2 a3 pn sl dr nw k) (cwV 1 C.2.2.2.2.1 gX5_ofPin_X4_isPin rfl rfl rfl hdV_X4_isPin ⟨Nat.le_of_ble_eq_true rfl, Nat.le_of_ble_eq_true rfl⟩) [1] rfl rfl 1 rfl rfl rfl _ rfl (Nat.le_of_ble_eq_true rfl) ⟨Nat.zero_le _, Nat.zero_le _⟩ dX5_ofPin_5 ?_
  generalize hu5 : (F_X4_isPin pn k) = u5 at hf ⊢
  refine z_if_ne (tgt := 13) C dX5_ofPin_8 (by decide) (fun c8 => ?_) (fun c8 => ?_)
  · rw [if_neg c8] at hf
    have b8 := c8
    rw [← hu5] at c8
    refine z_iload_n C dX5_ofPin_13 rfl 2 rfl ?_
    by_cases c14_0 : w = (0 : Int32)
    · rw [if_pos c14_0] at hf
      refine z_tabIn (tgt := 52) C dX5_ofPin_14 (by rw [c14_0]; decide) (by rw [c14_0]; decide) (by rw [c14_0] <;> rfl) (by decide) ?_
      refine z_aload_n C dX5_ofPin_52 rfl 0 rfl ?_
      refine z_get (T := TX5) (v := .ref h4) C i_X5_ofPin_5 0 rfl rfl 0 (by decide) m_X5_ofPin_1 rfl rfl dX5_ofPin_53 ?_
      refine z_iload_n C dX5_ofPin_56 rfl 1 rfl ?_
      refine z_cVR (As := [.int k]) C (c_X4_kindAt l D cI cO h4 a1 a2 a3 pn sl dr nw kd k) (cwV 1 C.2.2.2.2.1 gX5_ofPin_X4_kindAt rfl rfl rfl hdV_X4_kindAt ⟨Nat.le_of_ble_eq_true rfl, Nat.le_of_ble_eq_true rfl⟩) [1, 2] rfl rfl 1 rfl rfl rfl _ rfl (Nat.le_of_ble_eq_true rfl) ⟨Nat.zero_le _, Nat.zero_le _⟩ dX5_ofPin_57 ?_
      generalize hu57 : (F_X4_kindAt pn kd k) = u57 at hf ⊢
      exact z_iretR C hr hlk (by rw [hf]) dX5_ofPin_60
    rw [if_neg c14_0] at hf
    by_cases c14_1 : w = (1 : Int32)
    · rw [if_pos c14_1] at hf
      refine z_tabIn (tgt := 61) C dX5_ofPin_14 (by rw [c14_1]; decide) (by rw [c14_1]; decide) (by rw [c14_1] <;> rfl) (by decide) ?_
      refine z_aload_n C dX5_ofPin_61 rfl 0 rfl ?_
      refine z_get (T := TX5) (v := .ref h4) C i_X5_ofPin_5 0 rfl rfl 0 (by decide) m_X5_ofPin_1 rfl rfl dX5_ofPin_62 ?_
      refine z_iload_n C dX5_ofPin_65 rfl 1 rfl ?_
      refine z_cVR (As := [.int k]) C (c_X4_bendAt l D cI cO h4 a1 a2 a3 pn sl dr nw bd k) (cwV 1 C.2.2.2.2.1 gX5_ofPin_X4_bendAt rfl rfl rfl hdV_X4_bendAt ⟨Nat.le_of_ble_eq_true rfl, Nat.le_of_ble_eq_true rfl⟩) [1, 3] rfl rfl 1 rfl rfl rfl _ rfl (Nat.le_of_ble_eq_true rfl) ⟨Nat.zero_le _, Nat.zero_le _⟩ dX5_ofPin_66 ?_
      generalize hu66 : (F_X4_bendAt pn bd k) = u66 at hf ⊢
      exact z_iretR C hr hlk (by rw [hf]) dX5_ofPin_69
    rw [if_neg c14_1] at hf
    by_cases c14_2 : w = (2 : Int32)
    · rw [if_pos c14_2] at hf
      refine z_tabIn (tgt := 70) C dX5_ofPin_14 (by rw [c14_2]; decide) (by rw [c14_2]; decide) (by rw [c14_2] <;> rfl) (by decide) ?_
      refine z_aload_n C dX5_ofPin_70 rfl 0 rfl ?_
      refine z_get (T := TX5) (v := .ref h4) C i_X5_ofPin_5 0 rfl rfl 0 (by decide) m_X5_ofPin_1 rfl rfl dX5_ofPin_71 ?_
      refine z_iload_n C dX5_ofPin_74 rfl 1 rfl ?_
      refine z_cVR (As := [.int k]) C (c_X4_yearAt l D cI cO h4 a1 a2 a3 pn sl dr nw yr k) (cwV 1 C.2.2.2.2.1 gX5_ofPin_X4_yearAt rfl rfl rfl hdV_X4_yearAt ⟨Nat.le_of_ble_eq_true rfl, Nat.le_of_ble_eq_true rfl⟩) [1, 4] rfl rfl 1 rfl rfl rfl _ rfl (Nat.le_of_ble_eq_true rfl) ⟨Nat.zero_le _, Nat.zero_le _⟩ dX5_ofPin_75 ?_
      generalize hu75 : (F_X4_yearAt pn yr k) = u75 at hf ⊢
      exact z_iretR C hr hlk (by rw [hf]) dX5_ofPin_78
    rw [if_neg c14_2] at hf
    by_cases c14_3 : w = (3 : Int32)
    · rw [if_pos c14_3] at hf
      refine z_tabIn (tgt := 79) C dX5_ofPin_14 (by rw [c14_3]; decide) (by rw [c14_3]; decide) (by rw [c14_3] <;> rfl) (by decide) ?_
      refine z_aload_n C dX5_ofPin_79 rfl 0 rfl ?_
      refine z_get (T := TX5) (v := .ref h4) C i_X5_ofPin_5 0 rfl rfl 0 (by decide) m_X5_ofPin_1 rfl rfl dX5_ofPin_80 ?_
      refine z_iload_n C dX5_ofPin_83 rfl 1 rfl ?_
      refine z_cVR (As := [.int k]) C (c_X4_kindAt l D cI cO h4 a1 a2 a3 pn sl dr nw kd k) (cwV 1 C.2.2.2.2.1 gX5_ofPin_X4_kindAt rfl rfl rfl hdV_X4_kindAt ⟨Nat.le_of_ble_eq_true rfl, Nat.le_of_ble_eq_true rfl⟩) [1, 2] rfl rfl 1 rfl rfl rfl _ rfl (Nat.le_of_ble_eq_true rfl) ⟨Nat.zero_le _, Nat.zero_le _⟩ dX5_ofPin_84 ?_
      generalize hu84 : (F_X4_kindAt pn kd k) = u84 at hf ⊢
      refine z_aload_n C dX5_ofPin_87 rfl 0 rfl ?_
      refine z_get (T := TX5) (v := .ref h4) C i_X5_ofPin_5 0 rfl rfl 0 (by decide) m_X5_ofPin_1 rfl rfl dX5_ofPin_88 ?_
      refine z_iload_n C dX5_ofPin_91 rfl 1 rfl ?_
      refine z_cVR (As := [.int k]) C (c_X4_bendAt l D cI cO h4 a1 a2 a3 pn sl dr nw bd k) (cwV 1 C.2.2.2.2.1 gX5_ofPin_X4_bendAt rfl rfl rfl hdV_X4_bendAt ⟨Nat.le_of_ble_eq_true rfl, Nat.le_of_ble_eq_true rfl⟩) [1, 3] rfl rfl 1 rfl rfl rfl _ rfl (Nat.le_of_ble_eq_true rfl) ⟨Nat.zero_le _, Nat.zero_le _⟩ dX5_ofPin_92 ?_
      generalize hu92 : (F_X4_bendAt pn bd k) = u92 at hf ⊢
      refine z_cSR (As := [.int u84, .int u92]) C (c_X5_turnOf l D cI cO u84 u92) (va_cwS 2 C.2.2.2.2.1 gX5_ofPin_X5_turnOf rfl rfl rfl hdS_X5_turnOf ⟨Nat.le_of_ble_eq_true rfl, Nat.le_of_ble_eq_true rfl⟩) [] rfl rfl rfl _ rfl (Nat.le_of_ble_eq_true rfl) ⟨Nat.zero_le _, Nat.zero_le _⟩ dX5_ofPin_95 ?_
      generalize hu95 : (F_X5_turnOf u84 u92) = u95 at hf ⊢
      exact z_iretR C hr hlk (by rw [hf]) dX5_ofPin_98
    rw [if_neg c14_3] at hf
    by_cases c14_4 : w = (4 : Int32)
    · rw [if_pos c14_4] at hf
      refine z_tabIn (tgt := 99) C dX5_ofPin_14 (by rw [c14_4]; decide) (by rw [c14_4]; decide) (by rw [c14_4] <;> rfl) (by decide) ?_
      refine z_aload_n C dX5_ofPin_99 rfl 0 rfl ?_
      refine z_get (T := TX5) (v := .ref h4) C i_X5_ofPin_5 0 rfl rfl 0 (by decide) m_X5_ofPin_1 rfl rfl dX5_ofPin_100 ?_
      refine z_iload_n C dX5_ofPin_103 rfl 1 rfl ?_
      refine z_cVR (As := [.int k]) C (c_X4_wishAt l D cI cO h4 a1 a2 a3 pn sl dr nw kd bd yr k) (cwV 1 C.2.2.2.2.1 gX5_ofPin_X4_wishAt rfl rfl rfl hdV_X4_wishAt ⟨Nat.le_of_ble_eq_true rfl, Nat.le_of_ble_eq_true rfl⟩) [1, 2, 3, 4] rfl rfl 1 rfl rfl rfl _ rfl (Nat.le_of_ble_eq_true rfl) ⟨Nat.zero_le _, Nat.zero_le _⟩ dX5_ofPin_104 ?_
      generalize hu104 : (F_X4_wishAt pn sl dr kd bd yr k) = u104 at hf ⊢
      exact z_iretR C hr hlk (by rw [hf]) dX5_ofPin_107
    rw [if_neg c14_4] at hf
    by_cases c14_5 : w = (5 : Int32)
    · rw [if_pos c14_5] at hf
      refine z_tabIn (tgt := 108) C dX5_ofPin_14 (by rw [c14_5]; decide) (by rw [c14_5]; decide) (by rw [c14_5] <;> rfl) (by decide) ?_
      refine z_aload_n C dX5_ofPin_108 rfl 0 rfl ?_
      refine z_get (T := TX5) (v := .ref h4) C i_X5_ofPin_5 0 rfl rfl 0 (by decide) m_X5_ofPin_1 rfl rfl dX5_ofPin_109 ?_
      refine z_get (T := TX4) (v := .int nw) C i_X5_ofPin_4 1 rfl rfl 6 (by decide) m_X5_ofPin_2 rfl rfl dX5_ofPin_112 ?_
      refine z_aload_n C dX5_ofPin_115 rfl 0 rfl ?_
      refine z_get (T := TX5) (v := .ref h4) C i_X5_ofPin_5 0 rfl rfl 0 (by decide) m_X5_ofPin_1 rfl rfl dX5_ofPin_116 ?_
      refine z_iload_n C dX5_ofPin_119 rfl 1 rfl ?_
      refine z_cVR (As := [.int k]) C (c_X4_yearAt l D cI cO h4 a1 a2 a3 pn sl dr nw yr k) (cwV 1 C.2.2.2.2.1 gX5_ofPin_X4_yearAt rfl rfl rfl hdV_X4_yearAt ⟨Nat.le_of_ble_eq_true rfl, Nat.le_of_ble_eq_true rfl⟩) [1, 4] rfl rfl 1 rfl rfl rfl _ rfl (Nat.le_of_ble_eq_true rfl) ⟨Nat.zero_le _, Nat.zero_le _⟩ dX5_ofPin_120 ?_
      generalize hu120 : (F_X4_yearAt pn yr k) = u120 at hf ⊢
      refine z_isub C dX5_ofPin_123 ?_
      exact z_iretR C hr hlk (by rw [hf]) dX5_ofPin_124
    rw [if_neg c14_5] at hf
    refine z_tabOut (tgt := 125) C dX5_ofPin_14 (by have n0 := zne c14_0 (z := 0) (by decide); have n1 := zne c14_1 (z := 1) (by decide); have n2 := zne c14_2 (z := 2) (by decide); have n3 := zne c14_3 (z := 3) (by decide); have n4 := zne c14_4 (z := 4) (by decide); have n5 := zne c14_5 (z := 5) (by decide); omega) (by decide) ?_
    refine z_bipush (v := (-2 : Int32)) C dX5_ofPin_125 (by decide) ?_
    exact z_iretR C hr hlk (by rw [hf]) dX5_ofPin_127
  · rw [if_pos c8] at hf
    have b8 := c8
    rw [← hu5] at c8
    refine z_iconst (v := (-1 : Int32)) C dX5_ofPin_11 (by decide) ?_
    exact z_iretR C hr hlk (by rw [hf]) dX5_ofPin_12
-- X5_bend
theorem i_X5_bend_5 : ∀ w ∈ u_ws RX5 TX5 7, w ∈ wsX5_bend := by decide +kernel
theorem m_X5_bend_1 : Cond.fieldLink RX5 12 "WishPins" "lying" "LWishPins$Well;" ∈ wsX5_bend := List.mem_of_getElem? (i := 1) rfl
def F_X5_bend (pn : Int32) (bd : Nat → Int32) (k : Int32) (v : Int32) : Int32 × (Nat → Int32) :=
  (if (F_X4_isPin pn k) = 0 then ((-1 : Int32), bd) else (if (F_X5_isBend v) = 0 then ((-2 : Int32), bd) else ((F_X4_bendAt pn bd k), (F_X4_setBend pn bd k v))))
set_option maxHeartbeats 4000000 in
set_option maxRecDepth 100000 in
theorem c_X5_bend (l : Launch) (D : va_G) (cI cO : ClassId) (h5 : Nat) (ash : Nat) (tr : Int32) (ft : Int32) (h4 : Nat) (a1 : Nat) (a2 : Nat) (a3 : Nat) (pn : Int32) (sl : Int32) (dr : Int32) (nw : Int32) (bd : Nat → Int32) (h2 : Nat) (h0 : Nat) (h1 : Nat) (k : Int32) (v : Int32) : zW l yX5_bend wsX5_bend ({ frames := 2, cells := 0, slots := 0, locals := 43 } : Room) D cI cO [.ref h5, .int k, .int v] [(h5, .inr (5, [.ref h4, .ref h2, .ref h0, .ref h1, .ref ash, .int tr, .int ft])), (h4, .inr (4, [.ref a1, .ref a2, .ref a3, .int pn, .int sl, .int dr, .int nw])), (a2, .inl (cI, 9, .inl bd))] [(h5, .inr (5, [.ref h4, .ref h2, .ref h0, .ref h1, .ref ash, .int tr, .int ft])), (h4, .inr (4, [.ref a1, .ref a2, .ref a3, .int pn, .int sl, .int dr, .int nw])), (a2, .inl (cI, 9, .inl ((F_X5_bend pn bd k v).2)))] (some (.int ((F_X5_bend pn bd k v).1))) := by
  refine zW_of (nL := 4) (cc := cX5_bend) (ret := some .int) (lv := [(0, .ref h5), (1, .int k), (2, .int v)]) (by decide +kernel) rfl (Nat.le_of_ble_eq_true rfl) rfl (fun p e s m args below meth c C hr hlk => ?_)
  have hf := F_X5_bend.eq_1 pn bd k v
  refine z_aload_n C dX5_bend_0 rfl 0 rfl ?_
  refine z_get (T := TX5) (v := .ref h4) C i_X5_bend_5 0 rfl rfl 0 (by decide) m_X5_bend_1 rfl rfl dX5_bend_1 ?_
  refine z_iload_n C dX5_bend_4 rfl 1 rfl ?_
  refine z_cVR (As := [.int k]) C (c_X4_isPin l D cI cO h4 a1 a2 a3 pn sl dr nw k) (cwV 1 C.2.2.2.2.1 gX5_bend_X4_isPin rfl rfl rfl hdV_X4_isPin ⟨Nat.le_of_ble_eq_true rfl, Nat.le_of_ble_eq_true rfl⟩) [1] rfl rfl 1 rfl rfl rfl _ rfl (Nat.le_of_ble_eq_true rfl) ⟨Nat.zero_le _, Nat.zero_le _⟩ dX5_bend_5 ?_
  generalize hu5 : (F_X4_isPin pn k) = u5 at hf ⊢
  refine z_if_ne (tgt := 13) C dX5_bend_8 (by decide) (fun c8 => ?_) (fun c8 => ?_)
  · rw [if_neg c8] at hf
    have b8 := c8
    rw [← hu5] at c8
    refine z_iload_n C dX5_bend_13 rfl 2 rfl ?_
    refine z_cSR (As := [.int v]) C (c_X5_isBend l D cI cO v) (va_cwS 1 C.2.2.2.2.1 gX5_bend_X5_isBend rfl rfl rfl hdS_X5_isBend ⟨Nat.le_of_ble_eq_true rfl, Nat.le_of_ble_eq_true rfl⟩) [] rfl rfl rfl _ rfl (Nat.le_of_ble_eq_true rfl) ⟨Nat.zero_le _, Nat.zero_le _⟩ dX5_bend_14 ?_
    generalize hu14 : (F_X5_isBend v) = u14 at hf ⊢
    refine z_if_ne (tgt := 23) C dX5_bend_17 (by decide) (fun c17 => ?_) (fun c17 => ?_)
    · rw [if_neg c17] at hf
      have b17 := c17
      rw [← hu14] at c17
      refine z_aload_n C dX5_bend_23 rfl 0 rfl ?_
      refine z_get (T := TX5) (v := .ref h4) C i_X5_bend_5 0 rfl rfl 0 (by decide) m_X5_bend_1 rfl rfl dX5_bend_24 ?_
      refine z_iload_n C dX5_bend_27 rfl 1 rfl ?_
      refine z_cVR (As := [.int k]) C (c_X4_bendAt l D cI cO h4 a1 a2 a3 pn sl dr nw bd k) (cwV 1 C.2.2.2.2.1 gX5_bend_X4_bendAt rfl rfl rfl hdV_X4_bendAt ⟨Nat.le_of_ble_eq_true rfl, Nat.le_of_ble_eq_true rfl⟩) [1, 2] rfl rfl 1 rfl rfl rfl _ rfl (Nat.le_of_ble_eq_true rfl) ⟨Nat.zero_le _, Nat.zero_le _⟩ dX5_bend_28 ?_
      generalize hu28 : (F_X4_bendAt pn bd k) = u28 at hf ⊢
      refine z_istore_n C [(0, .ref h5), (1, .int k), (2, .int v), (3, .int u28)] dX5_bend_31 rfl (by decide) [1, 2, 3, 0] rfl ?_
      refine z_aload_n C dX5_bend_32 rfl 0 rfl ?_
      refine z_get (T := TX5) (v := .ref h4) C i_X5_bend_5 0 rfl rfl 0 (by decide) m_X5_bend_1 rfl rfl dX5_bend_33 ?_
      refine z_iload_n C dX5_bend_36 rfl 1 rfl ?_
      refine z_iload_n C dX5_bend_37 rfl 2 rfl ?_
      refine z_cVW (As := [.int k, .int v]) C (c_X4_setBend l D cI cO h4 a1 a2 a3 pn sl dr nw bd k v) (cwV 2 C.2.2.2.2.1 gX5_bend_X4_setBend rfl rfl rfl hdV_X4_setBend ⟨Nat.le_of_ble_eq_true rfl, Nat.le_of_ble_eq_true rfl⟩) [(h5, .inr (5, [.ref h4, .ref h2, .ref h0, .ref h1, .ref ash, .int tr, .int ft])), (h4, .inr (4, [.ref a1, .ref a2, .ref a3, .int pn, .int sl, .int dr, .int nw])), (a2, .inl (cI, 9, .inl (F_X4_setBend pn bd k v)))] [1, 2] rfl rfl (Eq.refl [h4, a2]) rfl 1 rfl rfl rfl _ rfl (Nat.le_of_ble_eq_true rfl) ⟨Nat.zero_le _, Nat.zero_le _⟩ dX5_bend_38 ?_
      generalize hu38 : (F_X4_setBend pn bd k v) = u38 at hf ⊢
      refine z_iload_n C dX5_bend_41 rfl 3 rfl ?_
      exact z_iretW C hr hlk (by rw [hf]) (by rw [hf]) dX5_bend_42
    · rw [if_pos c17] at hf
      have b17 := c17
      rw [← hu14] at c17
      refine z_bipush (v := (-2 : Int32)) C dX5_bend_20 (by decide) ?_
      exact z_iretW C hr hlk (by rw [hf]) (by rw [hf]) dX5_bend_22
  · rw [if_pos c8] at hf
    have b8 := c8
    rw [← hu5] at c8
    refine z_iconst (v := (-1 : Int32)) C dX5_bend_11 (by decide) ?_
    exact z_iretW C hr hlk (by rw [hf]) (by rw [hf]) dX5_bend_12
-- X5_rekey
theorem i_X5_rekey_5 : ∀ w ∈ u_ws RX5 TX5 7, w ∈ wsX5_rekey := by decide +kernel
theorem m_X5_rekey_1 : Cond.fieldLink RX5 12 "WishPins" "lying" "LWishPins$Well;" ∈ wsX5_rekey := List.mem_of_getElem? (i := 1) rfl
theorem i_X5_rekey_4 : ∀ w ∈ u_ws RX4 TX4 7, w ∈ wsX5_rekey := by decide +kernel
theorem m_X5_rekey_2 : Cond.fieldLink RX5 115 "WishPins$Well" "slope" "I" ∈ wsX5_rekey := List.mem_of_getElem? (i := 2) rfl
theorem m_X5_rekey_3 : Cond.fieldLink RX5 118 "WishPins$Well" "drift" "I" ∈ wsX5_rekey := List.mem_of_getElem? (i := 3) rfl
def F_X5_rekey (pn : Int32) (sl : Int32) (dr : Int32) (a : Int32) (b : Int32) : Int32 × Int32 × Int32 :=
  (if (F_X5_hasWell pn) = 0 then ((-3 : Int32), sl, dr) else (if a < (1 : Int32) then ((-2 : Int32), sl, dr) else (if (5 : Int32) < a then ((-2 : Int32), sl, dr) else (if b < 0 then ((-2 : Int32), sl, dr) else (if b ≤ (5 : Int32) then ((F_X5_keyNumber sl dr), a, b) else ((-2 : Int32), sl, dr))))))
set_option maxHeartbeats 4000000 in
set_option maxRecDepth 100000 in
theorem c_X5_rekey (l : Launch) (D : va_G) (cI cO : ClassId) (h5 : Nat) (ash : Nat) (tr : Int32) (ft : Int32) (h4 : Nat) (a1 : Nat) (a2 : Nat) (a3 : Nat) (pn : Int32) (sl : Int32) (dr : Int32) (nw : Int32) (h2 : Nat) (h0 : Nat) (h1 : Nat) (a : Int32) (b : Int32) : zW l yX5_rekey wsX5_rekey ({ frames := 1, cells := 0, slots := 0, locals := 21 } : Room) D cI cO [.ref h5, .int a, .int b] [(h5, .inr (5, [.ref h4, .ref h2, .ref h0, .ref h1, .ref ash, .int tr, .int ft])), (h4, .inr (4, [.ref a1, .ref a2, .ref a3, .int pn, .int sl, .int dr, .int nw]))] [(h5, .inr (5, [.ref h4, .ref h2, .ref h0, .ref h1, .ref ash, .int tr, .int ft])), (h4, .inr (4, [.ref a1, .ref a2, .ref a3, .int pn, .int ((F_X5_rekey pn sl dr a b).2.1), .int ((F_X5_rekey pn sl dr a b).2.2), .int nw]))] (some (.int ((F_X5_rekey pn sl dr a b).1))) := by
  refine zW_of (nL := 4) (cc := cX5_rekey) (ret := some .int) (lv := [(0, .ref h5), (1, .int a), (2, .int b)]) (by decide +kernel) rfl (Nat.le_of_ble_eq_true rfl) rfl (fun p e s m args below meth c C hr hlk => ?_)
  have hf := F_X5_rekey.eq_1 pn sl dr a b
  refine z_aload_n C dX5_rekey_0 rfl 0 rfl ?_
  refine z_cVR (As := []) C (c_X5_hasWell l D cI cO h5 ash tr ft h4 a1 a2 a3 pn sl dr nw h2 h0 h1) (cwV 0 C.2.2.2.2.1 gX5_rekey_X5_hasWell rfl rfl rfl hdV_X5_hasWell ⟨Nat.le_of_ble_eq_true rfl, Nat.le_of_ble_eq_true rfl⟩) [0, 1] rfl rfl 0 rfl rfl rfl _ rfl (Nat.le_of_ble_eq_true rfl) ⟨Nat.zero_le _, Nat.zero_le _⟩ dX5_rekey_1 ?_
  generalize hu1 : (F_X5_hasWell pn) = u1 at hf ⊢
  refine z_if_ne (tgt := 10) C dX5_rekey_4 (by decide) (fun c4 => ?_) (fun c4 => ?_)
  · rw [if_neg c4] at hf
    have b4 := c4
    rw [← hu1] at c4
    refine z_iload_n C dX5_rekey_10 rfl 1 rfl ?_
    refine z_iconst (v := (1 : Int32)) C dX5_rekey_11 (by decide) ?_
    refine z_icmp_lt (tgt := 29) C dX5_rekey_12 (by decide) (fun c12 => ?_) (fun c12 => ?_)
    · rw [if_pos c12] at hf
      refine z_bipush (v := (-2 : Int32)) C dX5_rekey_29 (by decide) ?_
      exact z_iretW C hr hlk (by rw [hf]) (by rw [hf]) dX5_rekey_31
    · rw [if_neg c12] at hf
      refine z_iload_n C dX5_rekey_15 rfl 1 rfl ?_
      refine z_iconst (v := (5 : Int32)) C dX5_rekey_16 (by decide) ?_
      refine z_icmp_gt (tgt := 29) C dX5_rekey_17 (by decide) (fun c17 => ?_) (fun c17 => ?_)
      · rw [if_pos c17] at hf
        refine z_bipush (v := (-2 : Int32)) C dX5_rekey_29 (by decide) ?_
        exact z_iretW C hr hlk (by rw [hf]) (by rw [hf]) dX5_rekey_31
      · rw [if_neg c17] at hf
        refine z_iload_n C dX5_rekey_20 rfl 2 rfl ?_
        refine z_if_lt (tgt := 29) C dX5_rekey_21 (by decide) (fun c21 => ?_) (fun c21 => ?_)
        · rw [if_pos c21] at hf
          refine z_bipush (v := (-2 : Int32)) C dX5_rekey_29 (by decide) ?_
          exact z_iretW C hr hlk (by rw [hf]) (by rw [hf]) dX5_rekey_31
        · rw [if_neg c21] at hf
          refine z_iload_n C dX5_rekey_24 rfl 2 rfl ?_
          refine z_iconst (v := (5 : Int32)) C dX5_rekey_25 (by decide) ?_
          refine z_icmp_le (tgt := 32) C dX5_rekey_26 (by decide) (fun c26 => ?_) (fun c26 => ?_)
          · rw [if_pos c26] at hf
            refine z_aload_n C dX5_rekey_32 rfl 0 rfl ?_
            refine z_get (T := TX5) (v := .ref h4) C i_X5_rekey_5 0 rfl rfl 0 (by decide) m_X5_rekey_1 rfl rfl dX5_rekey_33 ?_
            refine z_get (T := TX4) (v := .int sl) C i_X5_rekey_4 1 rfl rfl 4 (by decide) m_X5_rekey_2 rfl rfl dX5_rekey_36 ?_
            refine z_aload_n C dX5_rekey_39 rfl 0 rfl ?_
            refine z_get (T := TX5) (v := .ref h4) C i_X5_rekey_5 0 rfl rfl 0 (by decide) m_X5_rekey_1 rfl rfl dX5_rekey_40 ?_
            refine z_get (T := TX4) (v := .int dr) C i_X5_rekey_4 1 rfl rfl 5 (by decide) m_X5_rekey_3 rfl rfl dX5_rekey_43 ?_
            refine z_cSR (As := [.int sl, .int dr]) C (c_X5_keyNumber l D cI cO sl dr) (va_cwS 2 C.2.2.2.2.1 gX5_rekey_X5_keyNumber rfl rfl rfl hdS_X5_keyNumber ⟨Nat.le_of_ble_eq_true rfl, Nat.le_of_ble_eq_true rfl⟩) [] rfl rfl rfl _ rfl (Nat.le_of_ble_eq_true rfl) ⟨Nat.zero_le _, Nat.zero_le _⟩ dX5_rekey_46 ?_
            generalize hu46 : (F_X5_keyNumber sl dr) = u46 at hf ⊢
            refine z_istore_n C [(0, .ref h5), (1, .int a), (2, .int b), (3, .int u46)] dX5_rekey_49 rfl (by decide) [1, 2, 3, 0] rfl ?_
            refine z_aload_n C dX5_rekey_50 rfl 0 rfl ?_
            refine z_get (T := TX5) (v := .ref h4) C i_X5_rekey_5 0 rfl rfl 0 (by decide) m_X5_rekey_1 rfl rfl dX5_rekey_51 ?_
            refine z_iload_n C dX5_rekey_54 rfl 1 rfl ?_
            refine z_put (T := TX4) (ty := .int) C [(h5, .inr (5, [.ref h4, .ref h2, .ref h0, .ref h1, .ref ash, .int tr, .int ft])), (h4, .inr (4, [.ref a1, .ref a2, .ref a3, .int pn, .int a, .int dr, .int nw]))] i_X5_rekey_4 tyX4 tyX4_ok nmX4 1 rfl rfl 4 (by decide) m_X5_rekey_2 rfl rfl (by decide +kernel) rfl rfl (Nat.le_of_ble_eq_true rfl) dX5_rekey_55 rfl ?_
            refine z_aload_n C dX5_rekey_58 rfl 0 rfl ?_
            refine z_get (T := TX5) (v := .ref h4) C i_X5_rekey_5 0 rfl rfl 0 (by decide) m_X5_rekey_1 rfl rfl dX5_rekey_59 ?_
            refine z_iload_n C dX5_rekey_62 rfl 2 rfl ?_
            refine z_put (T := TX4) (ty := .int) C [(h5, .inr (5, [.ref h4, .ref h2, .ref h0, .ref h1, .ref ash, .int tr, .int ft])), (h4, .inr (4, [.ref a1, .ref a2, .ref a3, .int pn, .int a, .int b, .int nw]))] i_X5_rekey_4 tyX4 tyX4_ok nmX4 1 rfl rfl 5 (by decide) m_X5_rekey_3 rfl rfl (by decide +kernel) rfl rfl (Nat.le_of_ble_eq_true rfl) dX5_rekey_63 rfl ?_
            refine z_iload_n C dX5_rekey_66 rfl 3 rfl ?_
            exact z_iretW C hr hlk (by rw [hf]) (by rw [hf]) dX5_rekey_67
          · rw [if_neg c26] at hf
            refine z_bipush (v := (-2 : Int32)) C dX5_rekey_29 (by decide) ?_
            exact z_iretW C hr hlk (by rw [hf]) (by rw [hf]) dX5_rekey_31
  · rw [if_pos c4] at hf
    have b4 := c4
    rw [← hu1] at c4
    refine z_bipush (v := (-3 : Int32)) C dX5_rekey_7 (by decide) ?_
    exact z_iretW C hr hlk (by rw [hf]) (by rw [hf]) dX5_rekey_9
-- X5_throwIn
theorem i_X5_throwIn_5 : ∀ w ∈ u_ws RX5 TX5 7, w ∈ wsX5_throwIn := by decide +kernel
theorem m_X5_throwIn_1 : Cond.fieldLink RX5 12 "WishPins" "lying" "LWishPins$Well;" ∈ wsX5_throwIn := List.mem_of_getElem? (i := 1) rfl
theorem i_X5_throwIn_4 : ∀ w ∈ u_ws RX4 TX4 7, w ∈ wsX5_throwIn := by decide +kernel
theorem m_X5_throwIn_2 : Cond.fieldLink RX5 79 "WishPins$Well" "pins" "I" ∈ wsX5_throwIn := List.mem_of_getElem? (i := 2) rfl
def F_X5_throwIn (pn : Int32) (sl : Int32) (dr : Int32) (nw : Int32) (kd : Nat → Int32) (bd : Nat → Int32) (yr : Nat → Int32) (k : Int32) (b : Int32) : Int32 × Int32 × (Nat → Int32) × (Nat → Int32) × (Nat → Int32) :=
  (if (F_X5_isKind k) = 0 then ((-2 : Int32), pn, kd, bd, yr) else (if (F_X5_isBend b) = 0 then ((-2 : Int32), pn, kd, bd, yr) else (if (F_X5_hasWell pn) = 0 then ((-3 : Int32), pn, kd, bd, yr) else (if (F_X4_addTop pn nw kd bd yr k b).1 = 0 then ((-4 : Int32), (F_X4_addTop pn nw kd bd yr k b).2.1, (F_X4_addTop pn nw kd bd yr k b).2.2.1, (F_X4_addTop pn nw kd bd yr k b).2.2.2.1, (F_X4_addTop pn nw kd bd yr k b).2.2.2.2) else ((F_X4_wishAt (F_X4_addTop pn nw kd bd yr k b).2.1 sl dr (F_X4_addTop pn nw kd bd yr k b).2.2.1 (F_X4_addTop pn nw kd bd yr k b).2.2.2.1 (F_X4_addTop pn nw kd bd yr k b).2.2.2.2 ((F_X4_addTop pn nw kd bd yr k b).2.1 - (1 : Int32))), (F_X4_addTop pn nw kd bd yr k b).2.1, (F_X4_addTop pn nw kd bd yr k b).2.2.1, (F_X4_addTop pn nw kd bd yr k b).2.2.2.1, (F_X4_addTop pn nw kd bd yr k b).2.2.2.2)))))
set_option maxHeartbeats 4000000 in
set_option maxRecDepth 100000 in
theorem c_X5_throwIn (l : Launch) (D : va_G) (cI cO : ClassId) (h5 : Nat) (ash : Nat) (tr : Int32) (ft : Int32) (h4 : Nat) (a1 : Nat) (a2 : Nat) (a3 : Nat) (pn : Int32) (sl : Int32) (dr : Int32) (nw : Int32) (kd : Nat → Int32) (bd : Nat → Int32) (yr : Nat → Int32) (h2 : Nat) (h0 : Nat) (h1 : Nat) (k : Int32) (b : Int32) : zW l yX5_throwIn wsX5_throwIn ({ frames := 2, cells := 0, slots := 0, locals := 44 } : Room) D cI cO [.ref h5, .int k, .int b] [(h5, .inr (5, [.ref h4, .ref h2, .ref h0, .ref h1, .ref ash, .int tr, .int ft])), (h4, .inr (4, [.ref a1, .ref a2, .ref a3, .int pn, .int sl, .int dr, .int nw])), (a1, .inl (cI, 9, .inl kd)), (a2, .inl (cI, 9, .inl bd)), (a3, .inl (cI, 9, .inl yr))] [(h5, .inr (5, [.ref h4, .ref h2, .ref h0, .ref h1, .ref ash, .int tr, .int ft])), (h4, .inr (4, [.ref a1, .ref a2, .ref a3, .int ((F_X5_throwIn pn sl dr nw kd bd yr k b).2.1), .int sl, .int dr, .int nw])), (a1, .inl (cI, 9, .inl ((F_X5_throwIn pn sl dr nw kd bd yr k b).2.2.1))), (a2, .inl (cI, 9, .inl ((F_X5_throwIn pn sl dr nw kd bd yr k b).2.2.2.1))), (a3, .inl (cI, 9, .inl ((F_X5_throwIn pn sl dr nw kd bd yr k b).2.2.2.2)))] (some (.int ((F_X5_throwIn pn sl dr nw kd bd yr k b).1))) := by
  refine zW_of (nL := 3) (cc := cX5_throwIn) (ret := some .int) (lv := [(0, .ref h5), (1, .int k), (2, .int b)]) (by decide +kernel) rfl (Nat.le_of_ble_eq_true rfl) rfl (fun p e s m args below meth c C hr hlk => ?_)
  have hf := F_X5_throwIn.eq_1 pn sl dr nw kd bd yr k b
  refine z_iload_n C dX5_throwIn_0 rfl 1 rfl ?_
  refine z_cSR (As := [.int k]) C (c_X5_isKind l D cI cO k) (va_cwS 1 C.2.2.2.2.1 gX5_throwIn_X5_isKind rfl rfl rfl hdS_X5_isKind ⟨Nat.le_of_ble_eq_true rfl, Nat.le_of_ble_eq_true rfl⟩) [] rfl rfl rfl _ rfl (Nat.le_of_ble_eq_true rfl) ⟨Nat.zero_le _, Nat.zero_le _⟩ dX5_throwIn_1 ?_
  generalize hu1 : (F_X5_isKind k) = u1 at hf ⊢
  refine z_if_eq (tgt := 14) C dX5_throwIn_4 (by decide) (fun c4 => ?_) (fun c4 => ?_)
  · rw [if_pos c4] at hf
    have b4 := c4
    rw [← hu1] at c4
    refine z_bipush (v := (-2 : Int32)) C dX5_throwIn_14 (by decide) ?_
    exact z_iretW C hr hlk (by rw [hf]) (by rw [hf]) dX5_throwIn_16
  · rw [if_neg c4] at hf
    have b4 := c4
    rw [← hu1] at c4
    refine z_iload_n C dX5_throwIn_7 rfl 2 rfl ?_
    refine z_cSR (As := [.int b]) C (c_X5_isBend l D cI cO b) (va_cwS 1 C.2.2.2.2.1 gX5_throwIn_X5_isBend rfl rfl rfl hdS_X5_isBend ⟨Nat.le_of_ble_eq_true rfl, Nat.le_of_ble_eq_true rfl⟩) [] rfl rfl rfl _ rfl (Nat.le_of_ble_eq_true rfl) ⟨Nat.zero_le _, Nat.zero_le _⟩ dX5_throwIn_8 ?_
    generalize hu8 : (F_X5_isBend b) = u8 at hf ⊢
    refine z_if_ne (tgt := 17) C dX5_throwIn_11 (by decide) (fun c11 => ?_) (fun c11 => ?_)
    · rw [if_neg c11] at hf
      have b11 := c11
      rw [← hu8] at c11
      refine z_aload_n C dX5_throwIn_17 rfl 0 rfl ?_
      refine z_cVR (As := []) C (c_X5_hasWell l D cI cO h5 ash tr ft h4 a1 a2 a3 pn sl dr nw h2 h0 h1) (cwV 0 C.2.2.2.2.1 gX5_throwIn_X5_hasWell rfl rfl rfl hdV_X5_hasWell ⟨Nat.le_of_ble_eq_true rfl, Nat.le_of_ble_eq_true rfl⟩) [0, 1] rfl rfl 0 rfl rfl rfl _ rfl (Nat.le_of_ble_eq_true rfl) ⟨Nat.zero_le _, Nat.zero_le _⟩ dX5_throwIn_18 ?_
      generalize hu18 : (F_X5_hasWell pn) = u18 at hf ⊢
      refine z_if_ne (tgt := 27) C dX5_throwIn_21 (by decide) (fun c21 => ?_) (fun c21 => ?_)
      · rw [if_neg c21] at hf
        have b21 := c21
        rw [← hu18] at c21
        refine z_aload_n C dX5_throwIn_27 rfl 0 rfl ?_
        refine z_get (T := TX5) (v := .ref h4) C i_X5_throwIn_5 0 rfl rfl 0 (by decide) m_X5_throwIn_1 rfl rfl dX5_throwIn_28 ?_
        refine z_iload_n C dX5_throwIn_31 rfl 1 rfl ?_
        refine z_iload_n C dX5_throwIn_32 rfl 2 rfl ?_
        refine z_cVW (As := [.int k, .int b]) C (c_X4_addTop l D cI cO h4 a1 a2 a3 pn sl dr nw kd bd yr k b) (cwV 2 C.2.2.2.2.1 gX5_throwIn_X4_addTop rfl rfl rfl hdV_X4_addTop ⟨Nat.le_of_ble_eq_true rfl, Nat.le_of_ble_eq_true rfl⟩) [(h5, .inr (5, [.ref h4, .ref h2, .ref h0, .ref h1, .ref ash, .int tr, .int ft])), (h4, .inr (4, [.ref a1, .ref a2, .ref a3, .int ((F_X4_addTop pn nw kd bd yr k b).2.1), .int sl, .int dr, .int nw])), (a1, .inl (cI, 9, .inl ((F_X4_addTop pn nw kd bd yr k b).2.2.1))), (a2, .inl (cI, 9, .inl ((F_X4_addTop pn nw kd bd yr k b).2.2.2.1))), (a3, .inl (cI, 9, .inl ((F_X4_addTop pn nw kd bd yr k b).2.2.2.2)))] [1, 2, 3, 4] rfl rfl (Eq.refl [h4, a1, a2, a3]) rfl 1 rfl rfl rfl _ rfl (Nat.le_of_ble_eq_true rfl) ⟨Nat.zero_le _, Nat.zero_le _⟩ dX5_throwIn_33 ?_
        generalize hu33 : (F_X4_addTop pn nw kd bd yr k b) = u33 at hf ⊢
        refine z_if_ne (tgt := 42) C dX5_throwIn_36 (by decide) (fun c36 => ?_) (fun c36 => ?_)
        · rw [if_neg c36] at hf
          have b36 := c36
          rw [← hu33] at c36
          refine z_aload_n C dX5_throwIn_42 rfl 0 rfl ?_
          refine z_get (T := TX5) (v := .ref h4) C i_X5_throwIn_5 0 rfl rfl 0 (by decide) m_X5_throwIn_1 rfl rfl dX5_throwIn_43 ?_
          refine z_aload_n C dX5_throwIn_46 rfl 0 rfl ?_
          refine z_get (T := TX5) (v := .ref h4) C i_X5_throwIn_5 0 rfl rfl 0 (by decide) m_X5_throwIn_1 rfl rfl dX5_throwIn_47 ?_
          refine z_get (T := TX4) (v := .int u33.2.1) C i_X5_throwIn_4 1 rfl rfl 3 (by decide) m_X5_throwIn_2 rfl rfl dX5_throwIn_50 ?_
          refine z_iconst (v := (1 : Int32)) C dX5_throwIn_53 (by decide) ?_
          refine z_isub C dX5_throwIn_54 ?_
          refine z_cVR (As := [.int (u33.2.1 - (1 : Int32))]) C (c_X4_wishAt l D cI cO h4 a1 a2 a3 u33.2.1 sl dr nw u33.2.2.1 u33.2.2.2.1 u33.2.2.2.2 (u33.2.1 - (1 : Int32))) (cwV 1 C.2.2.2.2.1 gX5_throwIn_X4_wishAt rfl rfl rfl hdV_X4_wishAt ⟨Nat.le_of_ble_eq_true rfl, Nat.le_of_ble_eq_true rfl⟩) [1, 2, 3, 4] rfl rfl 1 rfl rfl rfl _ rfl (Nat.le_of_ble_eq_true rfl) ⟨Nat.zero_le _, Nat.zero_le _⟩ dX5_throwIn_55 ?_
          generalize hu55 : (F_X4_wishAt u33.2.1 sl dr u33.2.2.1 u33.2.2.2.1 u33.2.2.2.2 (u33.2.1 - (1 : Int32))) = u55 at hf ⊢
          exact z_iretW C hr hlk (by rw [hf]) (by rw [hf]) dX5_throwIn_58
        · rw [if_pos c36] at hf
          have b36 := c36
          rw [← hu33] at c36
          refine z_bipush (v := (-4 : Int32)) C dX5_throwIn_39 (by decide) ?_
          exact z_iretW C hr hlk (by rw [hf]) (by rw [hf]) dX5_throwIn_41
      · rw [if_pos c21] at hf
        have b21 := c21
        rw [← hu18] at c21
        refine z_bipush (v := (-3 : Int32)) C dX5_throwIn_24 (by decide) ?_
        exact z_iretW C hr hlk (by rw [hf]) (by rw [hf]) dX5_throwIn_26
    · rw [if_pos c11] at hf
      have b11 := c11
      rw [← hu8] at c11
      refine z_bipush (v := (-2 : Int32)) C dX5_throwIn_14 (by decide) ?_
      exact z_iretW C hr hlk (by rw [hf]) (by rw [hf]) dX5_throwIn_16
-- X5_fish
theorem i_X5_fish_5 : ∀ w ∈ u_ws RX5 TX5 7, w ∈ wsX5_fish := by decide +kernel
theorem m_X5_fish_1 : Cond.fieldLink RX5 12 "WishPins" "lying" "LWishPins$Well;" ∈ wsX5_fish := List.mem_of_getElem? (i := 1) rfl
theorem i_X5_fish_4 : ∀ w ∈ u_ws RX4 TX4 7, w ∈ wsX5_fish := by decide +kernel
theorem m_X5_fish_2 : Cond.fieldLink RX5 79 "WishPins$Well" "pins" "I" ∈ wsX5_fish := List.mem_of_getElem? (i := 2) rfl
theorem m_X5_fish_3 : Cond.fieldLink RX5 21 "WishPins" "readings" "LWishPins$Readings;" ∈ wsX5_fish := List.mem_of_getElem? (i := 3) rfl
def F_X5_fish (pn : Int32) (sl : Int32) (dr : Int32) (kd : Nat → Int32) (bd : Nat → Int32) (yr : Nat → Int32) (rc : Int32) : Int32 × Int32 × Int32 :=
  (if (F_X4_dropTop pn).1 = 0 then ((-3 : Int32), (F_X4_dropTop pn).2, rc) else ((F_X4_wishAt pn sl dr kd bd yr (pn - (1 : Int32))), (F_X4_dropTop pn).2, F_X2_clear))
set_option maxHeartbeats 4000000 in
set_option maxRecDepth 100000 in
theorem c_X5_fish (l : Launch) (D : va_G) (cI cO : ClassId) (h5 : Nat) (ash : Nat) (tr : Int32) (ft : Int32) (h4 : Nat) (a1 : Nat) (a2 : Nat) (a3 : Nat) (pn : Int32) (sl : Int32) (dr : Int32) (nw : Int32) (kd : Nat → Int32) (bd : Nat → Int32) (yr : Nat → Int32) (h2 : Nat) (e1 : Nat) (e2 : Nat) (rc : Int32) (h0 : Nat) (h1 : Nat) : zW l yX5_fish wsX5_fish ({ frames := 2, cells := 0, slots := 0, locals := 44 } : Room) D cI cO [.ref h5] [(h5, .inr (5, [.ref h4, .ref h2, .ref h0, .ref h1, .ref ash, .int tr, .int ft])), (h4, .inr (4, [.ref a1, .ref a2, .ref a3, .int pn, .int sl, .int dr, .int nw])), (a1, .inl (cI, 9, .inl kd)), (a2, .inl (cI, 9, .inl bd)), (a3, .inl (cI, 9, .inl yr)), (h2, .inr (2, [.ref e1, .ref e2, .int rc]))] [(h5, .inr (5, [.ref h4, .ref h2, .ref h0, .ref h1, .ref ash, .int tr, .int ft])), (h4, .inr (4, [.ref a1, .ref a2, .ref a3, .int ((F_X5_fish pn sl dr kd bd yr rc).2.1), .int sl, .int dr, .int nw])), (a1, .inl (cI, 9, .inl kd)), (a2, .inl (cI, 9, .inl bd)), (a3, .inl (cI, 9, .inl yr)), (h2, .inr (2, [.ref e1, .ref e2, .int ((F_X5_fish pn sl dr kd bd yr rc).2.2)]))] (some (.int ((F_X5_fish pn sl dr kd bd yr rc).1))) := by
  refine zW_of (nL := 2) (cc := cX5_fish) (ret := some .int) (lv := [(0, .ref h5)]) (by decide +kernel) rfl (Nat.le_of_ble_eq_true rfl) rfl (fun p e s m args below meth c C hr hlk => ?_)
  have hf := F_X5_fish.eq_1 pn sl dr kd bd yr rc
  refine z_aload_n C dX5_fish_0 rfl 0 rfl ?_
  refine z_get (T := TX5) (v := .ref h4) C i_X5_fish_5 0 rfl rfl 0 (by decide) m_X5_fish_1 rfl rfl dX5_fish_1 ?_
  refine z_aload_n C dX5_fish_4 rfl 0 rfl ?_
  refine z_get (T := TX5) (v := .ref h4) C i_X5_fish_5 0 rfl rfl 0 (by decide) m_X5_fish_1 rfl rfl dX5_fish_5 ?_
  refine z_get (T := TX4) (v := .int pn) C i_X5_fish_4 1 rfl rfl 3 (by decide) m_X5_fish_2 rfl rfl dX5_fish_8 ?_
  refine z_iconst (v := (1 : Int32)) C dX5_fish_11 (by decide) ?_
  refine z_isub C dX5_fish_12 ?_
  refine z_cVR (As := [.int (pn - (1 : Int32))]) C (c_X4_wishAt l D cI cO h4 a1 a2 a3 pn sl dr nw kd bd yr (pn - (1 : Int32))) (cwV 1 C.2.2.2.2.1 gX5_fish_X4_wishAt rfl rfl rfl hdV_X4_wishAt ⟨Nat.le_of_ble_eq_true rfl, Nat.le_of_ble_eq_true rfl⟩) [1, 2, 3, 4] rfl rfl 1 rfl rfl rfl _ rfl (Nat.le_of_ble_eq_true rfl) ⟨Nat.zero_le _, Nat.zero_le _⟩ dX5_fish_13 ?_
  generalize hu13 : (F_X4_wishAt pn sl dr kd bd yr (pn - (1 : Int32))) = u13 at hf ⊢
  refine z_istore_n C [(0, .ref h5), (1, .int u13)] dX5_fish_16 rfl (by decide) [1, 0] rfl ?_
  refine z_aload_n C dX5_fish_17 rfl 0 rfl ?_
  refine z_get (T := TX5) (v := .ref h4) C i_X5_fish_5 0 rfl rfl 0 (by decide) m_X5_fish_1 rfl rfl dX5_fish_18 ?_
  refine z_cVW (As := []) C (c_X4_dropTop l D cI cO h4 a1 a2 a3 pn sl dr nw) (cwV 0 C.2.2.2.2.1 gX5_fish_X4_dropTop rfl rfl rfl hdV_X4_dropTop ⟨Nat.le_of_ble_eq_true rfl, Nat.le_of_ble_eq_true rfl⟩) [(h5, .inr (5, [.ref h4, .ref h2, .ref h0, .ref h1, .ref ash, .int tr, .int ft])), (h4, .inr (4, [.ref a1, .ref a2, .ref a3, .int ((F_X4_dropTop pn).2), .int sl, .int dr, .int nw])), (a1, .inl (cI, 9, .inl kd)), (a2, .inl (cI, 9, .inl bd)), (a3, .inl (cI, 9, .inl yr)), (h2, .inr (2, [.ref e1, .ref e2, .int rc]))] [1] rfl rfl (Eq.refl [h4]) rfl 1 rfl rfl rfl _ rfl (Nat.le_of_ble_eq_true rfl) ⟨Nat.zero_le _, Nat.zero_le _⟩ dX5_fish_21 ?_
  generalize hu21 : (F_X4_dropTop pn) = u21 at hf ⊢
  refine z_if_ne (tgt := 30) C dX5_fish_24 (by decide) (fun c24 => ?_) (fun c24 => ?_)
  · rw [if_neg c24] at hf
    have b24 := c24
    rw [← hu21] at c24
    refine z_aload_n C dX5_fish_30 rfl 0 rfl ?_
    refine z_get (T := TX5) (v := .ref h2) C i_X5_fish_5 0 rfl rfl 1 (by decide) m_X5_fish_3 rfl rfl dX5_fish_31 ?_
    refine z_cVW (As := []) C (c_X2_clear l D cI cO h2 e1 e2 rc) (cwV 0 C.2.2.2.2.1 gX5_fish_X2_clear rfl rfl rfl hdV_X2_clear ⟨Nat.le_of_ble_eq_true rfl, Nat.le_of_ble_eq_true rfl⟩) [(h5, .inr (5, [.ref h4, .ref h2, .ref h0, .ref h1, .ref ash, .int tr, .int ft])), (h4, .inr (4, [.ref a1, .ref a2, .ref a3, .int u21.2, .int sl, .int dr, .int nw])), (a1, .inl (cI, 9, .inl kd)), (a2, .inl (cI, 9, .inl bd)), (a3, .inl (cI, 9, .inl yr)), (h2, .inr (2, [.ref e1, .ref e2, .int F_X2_clear]))] [5] rfl rfl (Eq.refl [h2]) rfl 5 rfl rfl rfl _ rfl (Nat.le_of_ble_eq_true rfl) ⟨Nat.zero_le _, Nat.zero_le _⟩ dX5_fish_34 ?_
    generalize hu34 : F_X2_clear = u34 at hf ⊢
    refine z_iload_n C dX5_fish_37 rfl 1 rfl ?_
    exact z_iretW C hr hlk (by rw [hf]) (by rw [hf]) dX5_fish_38
  · rw [if_pos c24] at hf
    have b24 := c24
    rw [← hu21] at c24
    refine z_bipush (v := (-3 : Int32)) C dX5_fish_27 (by decide) ?_
    exact z_iretW C hr hlk (by rw [hf]) (by rw [hf]) dX5_fish_29
-- X5_years
theorem i_X5_years_5 : ∀ w ∈ u_ws RX5 TX5 7, w ∈ wsX5_years := by decide +kernel
theorem m_X5_years_1 : Cond.fieldLink RX5 12 "WishPins" "lying" "LWishPins$Well;" ∈ wsX5_years := List.mem_of_getElem? (i := 1) rfl
theorem i_X5_years_4 : ∀ w ∈ u_ws RX4 TX4 7, w ∈ wsX5_years := by decide +kernel
theorem m_X5_years_2 : Cond.fieldLink RX5 101 "WishPins$Well" "now" "I" ∈ wsX5_years := List.mem_of_getElem? (i := 2) rfl
def F_X5_years (pn : Int32) (nw : Int32) (n : Int32) : Int32 × Int32 :=
  (if n < (1 : Int32) then ((-2 : Int32), nw) else (if n ≤ (99 : Int32) then (if (F_X5_hasWell pn) = 0 then ((-3 : Int32), nw) else ((nw + n), (nw + n))) else ((-2 : Int32), nw)))
set_option maxHeartbeats 4000000 in
set_option maxRecDepth 100000 in
theorem c_X5_years (l : Launch) (D : va_G) (cI cO : ClassId) (h5 : Nat) (ash : Nat) (tr : Int32) (ft : Int32) (h4 : Nat) (a1 : Nat) (a2 : Nat) (a3 : Nat) (pn : Int32) (sl : Int32) (dr : Int32) (nw : Int32) (h2 : Nat) (h0 : Nat) (h1 : Nat) (n : Int32) : zW l yX5_years wsX5_years ({ frames := 1, cells := 0, slots := 0, locals := 20 } : Room) D cI cO [.ref h5, .int n] [(h5, .inr (5, [.ref h4, .ref h2, .ref h0, .ref h1, .ref ash, .int tr, .int ft])), (h4, .inr (4, [.ref a1, .ref a2, .ref a3, .int pn, .int sl, .int dr, .int nw]))] [(h5, .inr (5, [.ref h4, .ref h2, .ref h0, .ref h1, .ref ash, .int tr, .int ft])), (h4, .inr (4, [.ref a1, .ref a2, .ref a3, .int pn, .int sl, .int dr, .int ((F_X5_years pn nw n).2)]))] (some (.int ((F_X5_years pn nw n).1))) := by
  refine zW_of (nL := 2) (cc := cX5_years) (ret := some .int) (lv := [(0, .ref h5), (1, .int n)]) (by decide +kernel) rfl (Nat.le_of_ble_eq_true rfl) rfl (fun p e s m args below meth c C hr hlk => ?_)
  have hf := F_X5_years.eq_1 pn nw n
  refine z_iload_n C dX5_years_0 rfl 1 rfl ?_
  refine z_iconst (v := (1 : Int32)) C dX5_years_1 (by decide) ?_
  refine z_icmp_lt (tgt := 11) C dX5_years_2 (by decide) (fun c2 => ?_) (fun c2 => ?_)
  · rw [if_pos c2] at hf
    refine z_bipush (v := (-2 : Int32)) C dX5_years_11 (by decide) ?_
    exact z_iretW C hr hlk (by rw [hf]) (by rw [hf]) dX5_years_13
  · rw [if_neg c2] at hf
    refine z_iload_n C dX5_years_5 rfl 1 rfl ?_
    refine z_bipush (v := (99 : Int32)) C dX5_years_6 (by decide) ?_
    refine z_icmp_le (tgt := 14) C dX5_years_8 (by decide) (fun c8 => ?_) (fun c8 => ?_)
    · rw [if_pos c8] at hf
      refine z_aload_n C dX5_years_14 rfl 0 rfl ?_
      refine z_cVR (As := []) C (c_X5_hasWell l D cI cO h5 ash tr ft h4 a1 a2 a3 pn sl dr nw h2 h0 h1) (cwV 0 C.2.2.2.2.1 gX5_years_X5_hasWell rfl rfl rfl hdV_X5_hasWell ⟨Nat.le_of_ble_eq_true rfl, Nat.le_of_ble_eq_true rfl⟩) [0, 1] rfl rfl 0 rfl rfl rfl _ rfl (Nat.le_of_ble_eq_true rfl) ⟨Nat.zero_le _, Nat.zero_le _⟩ dX5_years_15 ?_
      generalize hu15 : (F_X5_hasWell pn) = u15 at hf ⊢
      refine z_if_ne (tgt := 24) C dX5_years_18 (by decide) (fun c18 => ?_) (fun c18 => ?_)
      · rw [if_neg c18] at hf
        have b18 := c18
        rw [← hu15] at c18
        refine z_aload_n C dX5_years_24 rfl 0 rfl ?_
        refine z_get (T := TX5) (v := .ref h4) C i_X5_years_5 0 rfl rfl 0 (by decide) m_X5_years_1 rfl rfl dX5_years_25 ?_
        refine z_dup C dX5_years_28 rfl ?_
        refine z_get (T := TX4) (v := .int nw) C i_X5_years_4 1 rfl rfl 6 (by decide) m_X5_years_2 rfl rfl dX5_years_29 ?_
        refine z_iload_n C dX5_years_32 rfl 1 rfl ?_
        refine z_iadd C dX5_years_33 ?_
        refine z_put (T := TX4) (ty := .int) C [(h5, .inr (5, [.ref h4, .ref h2, .ref h0, .ref h1, .ref ash, .int tr, .int ft])), (h4, .inr (4, [.ref a1, .ref a2, .ref a3, .int pn, .int sl, .int dr, .int (nw + n)]))] i_X5_years_4 tyX4 tyX4_ok nmX4 1 rfl rfl 6 (by decide) m_X5_years_2 rfl rfl (by decide +kernel) rfl rfl (Nat.le_of_ble_eq_true rfl) dX5_years_34 rfl ?_
        refine z_aload_n C dX5_years_37 rfl 0 rfl ?_
        refine z_get (T := TX5) (v := .ref h4) C i_X5_years_5 0 rfl rfl 0 (by decide) m_X5_years_1 rfl rfl dX5_years_38 ?_
        refine z_get (T := TX4) (v := .int (nw + n)) C i_X5_years_4 1 rfl rfl 6 (by decide) m_X5_years_2 rfl rfl dX5_years_41 ?_
        exact z_iretW C hr hlk (by rw [hf]) (by rw [hf]) dX5_years_44
      · rw [if_pos c18] at hf
        have b18 := c18
        rw [← hu15] at c18
        refine z_bipush (v := (-3 : Int32)) C dX5_years_21 (by decide) ?_
        exact z_iretW C hr hlk (by rw [hf]) (by rw [hf]) dX5_years_23
    · rw [if_neg c8] at hf
      refine z_bipush (v := (-2 : Int32)) C dX5_years_11 (by decide) ?_
      exact z_iretW C hr hlk (by rw [hf]) (by rw [hf]) dX5_years_13
-- X5_reading
theorem i_X5_reading_5 : ∀ w ∈ u_ws RX5 TX5 7, w ∈ wsX5_reading := by decide +kernel
theorem m_X5_reading_1 : Cond.fieldLink RX5 12 "WishPins" "lying" "LWishPins$Well;" ∈ wsX5_reading := List.mem_of_getElem? (i := 1) rfl
theorem m_X5_reading_2 : Cond.fieldLink RX5 21 "WishPins" "readings" "LWishPins$Readings;" ∈ wsX5_reading := List.mem_of_getElem? (i := 2) rfl
theorem i_X5_reading_2 : ∀ w ∈ u_ws RX2 TX2 3, w ∈ wsX5_reading := by decide +kernel
theorem m_X5_reading_3 : Cond.fieldLink RX5 169 "WishPins$Readings" "count" "I" ∈ wsX5_reading := List.mem_of_getElem? (i := 3) rfl
def F_X5_reading (pn : Int32) (rc : Int32) (rp : Nat → Int32) (rw : Nat → Int32) (k : Int32) (v : Int32) : Int32 × Int32 × (Nat → Int32) × (Nat → Int32) :=
  (if (F_X4_isPin pn k) = 0 then ((-1 : Int32), rc, rp, rw) else (if (F_X5_isWish v) = 0 then ((-2 : Int32), rc, rp, rw) else (if (F_X2_add rc rp rw k v).1 = 0 then ((-4 : Int32), (F_X2_add rc rp rw k v).2.1, (F_X2_add rc rp rw k v).2.2.1, (F_X2_add rc rp rw k v).2.2.2) else (rc, (F_X2_add rc rp rw k v).2.1, (F_X2_add rc rp rw k v).2.2.1, (F_X2_add rc rp rw k v).2.2.2))))
set_option maxHeartbeats 4000000 in
set_option maxRecDepth 100000 in
theorem c_X5_reading (l : Launch) (D : va_G) (cI cO : ClassId) (h5 : Nat) (ash : Nat) (tr : Int32) (ft : Int32) (h4 : Nat) (a1 : Nat) (a2 : Nat) (a3 : Nat) (pn : Int32) (sl : Int32) (dr : Int32) (nw : Int32) (h2 : Nat) (e1 : Nat) (e2 : Nat) (rc : Int32) (rp : Nat → Int32) (rw : Nat → Int32) (h0 : Nat) (h1 : Nat) (k : Int32) (v : Int32) : zW l yX5_reading wsX5_reading ({ frames := 1, cells := 0, slots := 0, locals := 22 } : Room) D cI cO [.ref h5, .int k, .int v] [(h5, .inr (5, [.ref h4, .ref h2, .ref h0, .ref h1, .ref ash, .int tr, .int ft])), (h4, .inr (4, [.ref a1, .ref a2, .ref a3, .int pn, .int sl, .int dr, .int nw])), (h2, .inr (2, [.ref e1, .ref e2, .int rc])), (e1, .inl (cI, 8, .inl rp)), (e2, .inl (cI, 8, .inl rw))] [(h5, .inr (5, [.ref h4, .ref h2, .ref h0, .ref h1, .ref ash, .int tr, .int ft])), (h4, .inr (4, [.ref a1, .ref a2, .ref a3, .int pn, .int sl, .int dr, .int nw])), (h2, .inr (2, [.ref e1, .ref e2, .int ((F_X5_reading pn rc rp rw k v).2.1)])), (e1, .inl (cI, 8, .inl ((F_X5_reading pn rc rp rw k v).2.2.1))), (e2, .inl (cI, 8, .inl ((F_X5_reading pn rc rp rw k v).2.2.2)))] (some (.int ((F_X5_reading pn rc rp rw k v).1))) := by
  refine zW_of (nL := 4) (cc := cX5_reading) (ret := some .int) (lv := [(0, .ref h5), (1, .int k), (2, .int v)]) (by decide +kernel) rfl (Nat.le_of_ble_eq_true rfl) rfl (fun p e s m args below meth c C hr hlk => ?_)
  have hf := F_X5_reading.eq_1 pn rc rp rw k v
  refine z_aload_n C dX5_reading_0 rfl 0 rfl ?_
  refine z_get (T := TX5) (v := .ref h4) C i_X5_reading_5 0 rfl rfl 0 (by decide) m_X5_reading_1 rfl rfl dX5_reading_1 ?_
  refine z_iload_n C dX5_reading_4 rfl 1 rfl ?_
  refine z_cVR (As := [.int k]) C (c_X4_isPin l D cI cO h4 a1 a2 a3 pn sl dr nw k) (cwV 1 C.2.2.2.2.1 gX5_reading_X4_isPin rfl rfl rfl hdV_X4_isPin ⟨Nat.le_of_ble_eq_true rfl, Nat.le_of_ble_eq_true rfl⟩) [1] rfl rfl 1 rfl rfl rfl _ rfl (Nat.le_of_ble_eq_true rfl) ⟨Nat.zero_le _, Nat.zero_le _⟩ dX5_reading_5 ?_
  generalize hu5 : (F_X4_isPin pn k) = u5 at hf ⊢
  refine z_if_ne (tgt := 13) C dX5_reading_8 (by decide) (fun c8 => ?_) (fun c8 => ?_)
  · rw [if_neg c8] at hf
    have b8 := c8
    rw [← hu5] at c8
    refine z_iload_n C dX5_reading_13 rfl 2 rfl ?_
    refine z_cSR (As := [.int v]) C (c_X5_isWish l D cI cO v) (va_cwS 1 C.2.2.2.2.1 gX5_reading_X5_isWish rfl rfl rfl hdS_X5_isWish ⟨Nat.le_of_ble_eq_true rfl, Nat.le_of_ble_eq_true rfl⟩) [] rfl rfl rfl _ rfl (Nat.le_of_ble_eq_true rfl) ⟨Nat.zero_le _, Nat.zero_le _⟩ dX5_reading_14 ?_
    generalize hu14 : (F_X5_isWish v) = u14 at hf ⊢
    refine z_if_ne (tgt := 23) C dX5_reading_17 (by decide) (fun c17 => ?_) (fun c17 => ?_)
    · rw [if_neg c17] at hf
      have b17 := c17
      rw [← hu14] at c17
      refine z_aload_n C dX5_reading_23 rfl 0 rfl ?_
      refine z_get (T := TX5) (v := .ref h2) C i_X5_reading_5 0 rfl rfl 1 (by decide) m_X5_reading_2 rfl rfl dX5_reading_24 ?_
      refine z_get (T := TX2) (v := .int rc) C i_X5_reading_2 2 rfl rfl 2 (by decide) m_X5_reading_3 rfl rfl dX5_reading_27 ?_
      refine z_istore_n C [(0, .ref h5), (1, .int k), (2, .int v), (3, .int rc)] dX5_reading_30 rfl (by decide) [1, 2, 3, 0] rfl ?_
      refine z_aload_n C dX5_reading_31 rfl 0 rfl ?_
      refine z_get (T := TX5) (v := .ref h2) C i_X5_reading_5 0 rfl rfl 1 (by decide) m_X5_reading_2 rfl rfl dX5_reading_32 ?_
      refine z_iload_n C dX5_reading_35 rfl 1 rfl ?_
      refine z_iload_n C dX5_reading_36 rfl 2 rfl ?_
      refine z_cVW (As := [.int k, .int v]) C (c_X2_add l D cI cO h2 e1 e2 rc rp rw k v) (cwV 2 C.2.2.2.2.1 gX5_reading_X2_add rfl rfl rfl hdV_X2_add ⟨Nat.le_of_ble_eq_true rfl, Nat.le_of_ble_eq_true rfl⟩) [(h5, .inr (5, [.ref h4, .ref h2, .ref h0, .ref h1, .ref ash, .int tr, .int ft])), (h4, .inr (4, [.ref a1, .ref a2, .ref a3, .int pn, .int sl, .int dr, .int nw])), (h2, .inr (2, [.ref e1, .ref e2, .int ((F_X2_add rc rp rw k v).2.1)])), (e1, .inl (cI, 8, .inl ((F_X2_add rc rp rw k v).2.2.1))), (e2, .inl (cI, 8, .inl ((F_X2_add rc rp rw k v).2.2.2)))] [2, 3, 4] rfl rfl (Eq.refl [h2, e1, e2]) rfl 2 rfl rfl rfl _ rfl (Nat.le_of_ble_eq_true rfl) ⟨Nat.zero_le _, Nat.zero_le _⟩ dX5_reading_37 ?_
      generalize hu37 : (F_X2_add rc rp rw k v) = u37 at hf ⊢
      refine z_if_ne (tgt := 46) C dX5_reading_40 (by decide) (fun c40 => ?_) (fun c40 => ?_)
      · rw [if_neg c40] at hf
        have b40 := c40
        rw [← hu37] at c40
        refine z_iload_n C dX5_reading_46 rfl 3 rfl ?_
        exact z_iretW C hr hlk (by rw [hf]) (by rw [hf]) dX5_reading_47
      · rw [if_pos c40] at hf
        have b40 := c40
        rw [← hu37] at c40
        refine z_bipush (v := (-4 : Int32)) C dX5_reading_43 (by decide) ?_
        exact z_iretW C hr hlk (by rw [hf]) (by rw [hf]) dX5_reading_45
    · rw [if_pos c17] at hf
      have b17 := c17
      rw [← hu14] at c17
      refine z_bipush (v := (-2 : Int32)) C dX5_reading_20 (by decide) ?_
      exact z_iretW C hr hlk (by rw [hf]) (by rw [hf]) dX5_reading_22
  · rw [if_pos c8] at hf
    have b8 := c8
    rw [← hu5] at c8
    refine z_iconst (v := (-1 : Int32)) C dX5_reading_11 (by decide) ?_
    exact z_iretW C hr hlk (by rw [hf]) (by rw [hf]) dX5_reading_12
-- X5_back
theorem i_X5_back_5 : ∀ w ∈ u_ws RX5 TX5 7, w ∈ wsX5_back := by decide +kernel
theorem m_X5_back_1 : Cond.fieldLink RX5 21 "WishPins" "readings" "LWishPins$Readings;" ∈ wsX5_back := List.mem_of_getElem? (i := 1) rfl
theorem i_X5_back_2 : ∀ w ∈ u_ws RX2 TX2 3, w ∈ wsX5_back := by decide +kernel
theorem m_X5_back_2 : Cond.fieldLink RX5 169 "WishPins$Readings" "count" "I" ∈ wsX5_back := List.mem_of_getElem? (i := 2) rfl
def F_X5_back (rc : Int32) (k : Int32) : Int32 × Int32 :=
  (if k < 0 then ((-2 : Int32), rc) else (if k ≤ rc then ((rc - k), (rc - k)) else ((-2 : Int32), rc)))
set_option maxHeartbeats 4000000 in
set_option maxRecDepth 100000 in
theorem c_X5_back (l : Launch) (D : va_G) (cI cO : ClassId) (h5 : Nat) (ash : Nat) (tr : Int32) (ft : Int32) (h4 : Nat) (h2 : Nat) (e1 : Nat) (e2 : Nat) (rc : Int32) (h0 : Nat) (h1 : Nat) (k : Int32) : zW l yX5_back wsX5_back ({ frames := 0, cells := 0, slots := 0, locals := 0 } : Room) D cI cO [.ref h5, .int k] [(h5, .inr (5, [.ref h4, .ref h2, .ref h0, .ref h1, .ref ash, .int tr, .int ft])), (h2, .inr (2, [.ref e1, .ref e2, .int rc]))] [(h5, .inr (5, [.ref h4, .ref h2, .ref h0, .ref h1, .ref ash, .int tr, .int ft])), (h2, .inr (2, [.ref e1, .ref e2, .int ((F_X5_back rc k).2)]))] (some (.int ((F_X5_back rc k).1))) := by
  refine zW_of (nL := 2) (cc := cX5_back) (ret := some .int) (lv := [(0, .ref h5), (1, .int k)]) (by decide +kernel) rfl (Nat.le_of_ble_eq_true rfl) rfl (fun p e s m args below meth c C hr hlk => ?_)
  have hf := F_X5_back.eq_1 rc k
  refine z_iload_n C dX5_back_0 rfl 1 rfl ?_
  refine z_if_lt (tgt := 15) C dX5_back_1 (by decide) (fun c1 => ?_) (fun c1 => ?_)
  · rw [if_pos c1] at hf
    refine z_bipush (v := (-2 : Int32)) C dX5_back_15 (by decide) ?_
    exact z_iretW C hr hlk (by rw [hf]) (by rw [hf]) dX5_back_17
  · rw [if_neg c1] at hf
    refine z_iload_n C dX5_back_4 rfl 1 rfl ?_
    refine z_aload_n C dX5_back_5 rfl 0 rfl ?_
    refine z_get (T := TX5) (v := .ref h2) C i_X5_back_5 0 rfl rfl 1 (by decide) m_X5_back_1 rfl rfl dX5_back_6 ?_
    refine z_get (T := TX2) (v := .int rc) C i_X5_back_2 1 rfl rfl 2 (by decide) m_X5_back_2 rfl rfl dX5_back_9 ?_
    refine z_icmp_le (tgt := 18) C dX5_back_12 (by decide) (fun c12 => ?_) (fun c12 => ?_)
    · rw [if_pos c12] at hf
      refine z_aload_n C dX5_back_18 rfl 0 rfl ?_
      refine z_get (T := TX5) (v := .ref h2) C i_X5_back_5 0 rfl rfl 1 (by decide) m_X5_back_1 rfl rfl dX5_back_19 ?_
      refine z_dup C dX5_back_22 rfl ?_
      refine z_get (T := TX2) (v := .int rc) C i_X5_back_2 1 rfl rfl 2 (by decide) m_X5_back_2 rfl rfl dX5_back_23 ?_
      refine z_iload_n C dX5_back_26 rfl 1 rfl ?_
      refine z_isub C dX5_back_27 ?_
      refine z_put (T := TX2) (ty := .int) C [(h5, .inr (5, [.ref h4, .ref h2, .ref h0, .ref h1, .ref ash, .int tr, .int ft])), (h2, .inr (2, [.ref e1, .ref e2, .int (rc - k)]))] i_X5_back_2 tyX2 tyX2_ok nmX2 1 rfl rfl 2 (by decide) m_X5_back_2 rfl rfl (by decide +kernel) rfl rfl (Nat.le_of_ble_eq_true rfl) dX5_back_28 rfl ?_
      refine z_aload_n C dX5_back_31 rfl 0 rfl ?_
      refine z_get (T := TX5) (v := .ref h2) C i_X5_back_5 0 rfl rfl 1 (by decide) m_X5_back_1 rfl rfl dX5_back_32 ?_
      refine z_get (T := TX2) (v := .int (rc - k)) C i_X5_back_2 1 rfl rfl 2 (by decide) m_X5_back_2 rfl rfl dX5_back_35 ?_
      exact z_iretW C hr hlk (by rw [hf]) (by rw [hf]) dX5_back_38
    · rw [if_neg c12] at hf
      refine z_bipush (v := (-2 : Int32)) C dX5_back_15 (by decide) ?_
      exact z_iretW C hr hlk (by rw [hf]) (by rw [hf]) dX5_back_17
-- X5_trace
theorem i_X5_trace_5 : ∀ w ∈ u_ws RX5 TX5 7, w ∈ wsX5_trace := by decide +kernel
theorem m_X5_trace_1 : Cond.fieldLink RX5 225 "WishPins" "traced" "I" ∈ wsX5_trace := List.mem_of_getElem? (i := 1) rfl
def F_X5_trace (tr : Int32) : Int32 :=
  tr
set_option maxHeartbeats 4000000 in
set_option maxRecDepth 100000 in
theorem c_X5_trace (l : Launch) (D : va_G) (cI cO : ClassId) (h5 : Nat) (ash : Nat) (tr : Int32) (ft : Int32) (h4 : Nat) (h2 : Nat) (h0 : Nat) (h1 : Nat) : zR l yX5_trace wsX5_trace ({ frames := 0, cells := 0, slots := 0, locals := 0 } : Room) D cI cO [.ref h5] [(h5, .inr (5, [.ref h4, .ref h2, .ref h0, .ref h1, .ref ash, .int tr, .int ft]))] (some (.int (F_X5_trace tr))) := by
  refine zR_of (nL := 1) (cc := cX5_trace) (ret := some .int) (lv := [(0, .ref h5)]) (by decide +kernel) rfl (Nat.le_of_ble_eq_true rfl) rfl (fun p e s m args below meth c C hr hlk => ?_)
  have hf := F_X5_trace.eq_1 tr
  refine z_aload_n C dX5_trace_0 rfl 0 rfl ?_
  refine z_get (T := TX5) (v := .int tr) C i_X5_trace_5 0 rfl rfl 5 (by decide) m_X5_trace_1 rfl rfl dX5_trace_1 ?_
  exact z_iretR C hr hlk (by rw [hf]) dX5_trace_4
-- X5_fault
theorem i_X5_fault_5 : ∀ w ∈ u_ws RX5 TX5 7, w ∈ wsX5_fault := by decide +kernel
theorem m_X5_fault_1 : Cond.fieldLink RX5 46 "WishPins" "latestFault" "I" ∈ wsX5_fault := List.mem_of_getElem? (i := 1) rfl
def F_X5_fault (ft : Int32) : Int32 :=
  ft
set_option maxHeartbeats 4000000 in
set_option maxRecDepth 100000 in
theorem c_X5_fault (l : Launch) (D : va_G) (cI cO : ClassId) (h5 : Nat) (ash : Nat) (tr : Int32) (ft : Int32) (h4 : Nat) (h2 : Nat) (h0 : Nat) (h1 : Nat) : zR l yX5_fault wsX5_fault ({ frames := 0, cells := 0, slots := 0, locals := 0 } : Room) D cI cO [.ref h5] [(h5, .inr (5, [.ref h4, .ref h2, .ref h0, .ref h1, .ref ash, .int tr, .int ft]))] (some (.int (F_X5_fault ft))) := by
  refine zR_of (nL := 1) (cc := cX5_fault) (ret := some .int) (lv := [(0, .ref h5)]) (by decide +kernel) rfl (Nat.le_of_ble_eq_true rfl) rfl (fun p e s m args below meth c C hr hlk => ?_)
  have hf := F_X5_fault.eq_1 ft
  refine z_aload_n C dX5_fault_0 rfl 0 rfl ?_
  refine z_get (T := TX5) (v := .int ft) C i_X5_fault_5 0 rfl rfl 6 (by decide) m_X5_fault_1 rfl rfl dX5_fault_1 ?_
  exact z_iretR C hr hlk (by rw [hf]) dX5_fault_4
-- X5_many
theorem i_X5_many_5 : ∀ w ∈ u_ws RX5 TX5 7, w ∈ wsX5_many := by decide +kernel
theorem m_X5_many_1 : Cond.fieldLink RX5 12 "WishPins" "lying" "LWishPins$Well;" ∈ wsX5_many := List.mem_of_getElem? (i := 1) rfl
theorem i_X5_many_4 : ∀ w ∈ u_ws RX4 TX4 7, w ∈ wsX5_many := by decide +kernel
theorem m_X5_many_2 : Cond.fieldLink RX5 79 "WishPins$Well" "pins" "I" ∈ wsX5_many := List.mem_of_getElem? (i := 2) rfl
theorem m_X5_many_3 : Cond.fieldLink RX5 115 "WishPins$Well" "slope" "I" ∈ wsX5_many := List.mem_of_getElem? (i := 3) rfl
theorem m_X5_many_4 : Cond.fieldLink RX5 118 "WishPins$Well" "drift" "I" ∈ wsX5_many := List.mem_of_getElem? (i := 4) rfl
theorem m_X5_many_5 : Cond.fieldLink RX5 101 "WishPins$Well" "now" "I" ∈ wsX5_many := List.mem_of_getElem? (i := 5) rfl
theorem m_X5_many_6 : Cond.fieldLink RX5 21 "WishPins" "readings" "LWishPins$Readings;" ∈ wsX5_many := List.mem_of_getElem? (i := 6) rfl
theorem i_X5_many_2 : ∀ w ∈ u_ws RX2 TX2 3, w ∈ wsX5_many := by decide +kernel
theorem m_X5_many_7 : Cond.fieldLink RX5 169 "WishPins$Readings" "count" "I" ∈ wsX5_many := List.mem_of_getElem? (i := 7) rfl
def F_X5_many (pn : Int32) (sl : Int32) (dr : Int32) (nw : Int32) (rc : Int32) (w : Int32) : Int32 :=
  (if w = (0 : Int32) then pn else (if w = (1 : Int32) then sl else (if w = (2 : Int32) then dr else (if w = (3 : Int32) then nw else (if w = (4 : Int32) then rc else (-2 : Int32))))))
set_option maxHeartbeats 4000000 in
set_option maxRecDepth 100000 in
theorem c_X5_many (l : Launch) (D : va_G) (cI cO : ClassId) (h5 : Nat) (ash : Nat) (tr : Int32) (ft : Int32) (h4 : Nat) (a1 : Nat) (a2 : Nat) (a3 : Nat) (pn : Int32) (sl : Int32) (dr : Int32) (nw : Int32) (h2 : Nat) (e1 : Nat) (e2 : Nat) (rc : Int32) (h0 : Nat) (h1 : Nat) (w : Int32) : zR l yX5_many wsX5_many ({ frames := 0, cells := 0, slots := 0, locals := 0 } : Room) D cI cO [.ref h5, .int w] [(h5, .inr (5, [.ref h4, .ref h2, .ref h0, .ref h1, .ref ash, .int tr, .int ft])), (h4, .inr (4, [.ref a1, .ref a2, .ref a3, .int pn, .int sl, .int dr, .int nw])), (h2, .inr (2, [.ref e1, .ref e2, .int rc]))] (some (.int (F_X5_many pn sl dr nw rc w))) := by
  refine zR_of (nL := 2) (cc := cX5_many) (ret := some .int) (lv := [(0, .ref h5), (1, .int w)]) (by decide +kernel) rfl (Nat.le_of_ble_eq_true rfl) rfl (fun p e s m args below meth c C hr hlk => ?_)
  have hf := F_X5_many.eq_1 pn sl dr nw rc w
  refine z_iload_n C dX5_many_0 rfl 1 rfl ?_
  by_cases c1_0 : w = (0 : Int32)
  · rw [if_pos c1_0] at hf
    refine z_tabIn (tgt := 36) C dX5_many_1 (by rw [c1_0]; decide) (by rw [c1_0]; decide) (by rw [c1_0] <;> rfl) (by decide) ?_
    refine z_aload_n C dX5_many_36 rfl 0 rfl ?_
    refine z_get (T := TX5) (v := .ref h4) C i_X5_many_5 0 rfl rfl 0 (by decide) m_X5_many_1 rfl rfl dX5_many_37 ?_
    refine z_get (T := TX4) (v := .int pn) C i_X5_many_4 1 rfl rfl 3 (by decide) m_X5_many_2 rfl rfl dX5_many_40 ?_
    exact z_iretR C hr hlk (by rw [hf]) dX5_many_43
  rw [if_neg c1_0] at hf
  by_cases c1_1 : w = (1 : Int32)
  · rw [if_pos c1_1] at hf
    refine z_tabIn (tgt := 44) C dX5_many_1 (by rw [c1_1]; decide) (by rw [c1_1]; decide) (by rw [c1_1] <;> rfl) (by decide) ?_
    refine z_aload_n C dX5_many_44 rfl 0 rfl ?_
    refine z_get (T := TX5) (v := .ref h4) C i_X5_many_5 0 rfl rfl 0 (by decide) m_X5_many_1 rfl rfl dX5_many_45 ?_
    refine z_get (T := TX4) (v := .int sl) C i_X5_many_4 1 rfl rfl 4 (by decide) m_X5_many_3 rfl rfl dX5_many_48 ?_
    exact z_iretR C hr hlk (by rw [hf]) dX5_many_51
  rw [if_neg c1_1] at hf
  by_cases c1_2 : w = (2 : Int32)
  · rw [if_pos c1_2] at hf
    refine z_tabIn (tgt := 52) C dX5_many_1 (by rw [c1_2]; decide) (by rw [c1_2]; decide) (by rw [c1_2] <;> rfl) (by decide) ?_
    refine z_aload_n C dX5_many_52 rfl 0 rfl ?_
    refine z_get (T := TX5) (v := .ref h4) C i_X5_many_5 0 rfl rfl 0 (by decide) m_X5_many_1 rfl rfl dX5_many_53 ?_
    refine z_get (T := TX4) (v := .int dr) C i_X5_many_4 1 rfl rfl 5 (by decide) m_X5_many_4 rfl rfl dX5_many_56 ?_
    exact z_iretR C hr hlk (by rw [hf]) dX5_many_59
  rw [if_neg c1_2] at hf
  by_cases c1_3 : w = (3 : Int32)
  · rw [if_pos c1_3] at hf
    refine z_tabIn (tgt := 60) C dX5_many_1 (by rw [c1_3]; decide) (by rw [c1_3]; decide) (by rw [c1_3] <;> rfl) (by decide) ?_
    refine z_aload_n C dX5_many_60 rfl 0 rfl ?_
    refine z_get (T := TX5) (v := .ref h4) C i_X5_many_5 0 rfl rfl 0 (by decide) m_X5_many_1 rfl rfl dX5_many_61 ?_
    refine z_get (T := TX4) (v := .int nw) C i_X5_many_4 1 rfl rfl 6 (by decide) m_X5_many_5 rfl rfl dX5_many_64 ?_
    exact z_iretR C hr hlk (by rw [hf]) dX5_many_67
  rw [if_neg c1_3] at hf
  by_cases c1_4 : w = (4 : Int32)
  · rw [if_pos c1_4] at hf
    refine z_tabIn (tgt := 68) C dX5_many_1 (by rw [c1_4]; decide) (by rw [c1_4]; decide) (by rw [c1_4] <;> rfl) (by decide) ?_
    refine z_aload_n C dX5_many_68 rfl 0 rfl ?_
    refine z_get (T := TX5) (v := .ref h2) C i_X5_many_5 0 rfl rfl 1 (by decide) m_X5_many_6 rfl rfl dX5_many_69 ?_
    refine z_get (T := TX2) (v := .int rc) C i_X5_many_2 2 rfl rfl 2 (by decide) m_X5_many_7 rfl rfl dX5_many_72 ?_
    exact z_iretR C hr hlk (by rw [hf]) dX5_many_75
  rw [if_neg c1_4] at hf
  refine z_tabOut (tgt := 76) C dX5_many_1 (by have n0 := zne c1_0 (z := 0) (by decide); have n1 := zne c1_1 (z := 1) (by decide); have n2 := zne c1_2 (z := 2) (by decide); have n3 := zne c1_3 (z := 3) (by decide); have n4 := zne c1_4 (z := 4) (by decide); omega) (by decide) ?_
  refine z_bipush (v := (-2 : Int32)) C dX5_many_76 (by decide) ?_
  exact z_iretR C hr hlk (by rw [hf]) dX5_many_78
-- X5_tell
theorem i_X5_tell_5 : ∀ w ∈ u_ws RX5 TX5 7, w ∈ wsX5_tell := by decide +kernel
theorem m_X5_tell_1 : Cond.fieldLink RX5 12 "WishPins" "lying" "LWishPins$Well;" ∈ wsX5_tell := List.mem_of_getElem? (i := 1) rfl
def F_X5_tell (tr : Int32) (pn : Int32) (kd : Nat → Int32) (bd : Nat → Int32) (k : Int32) : Int32 × Int32 :=
  (if (F_X4_isPin pn k) = 0 then ((-1 : Int32), tr) else (if (F_X4_kindAt pn kd k) = (0 : Int32) then ((F_X5_tellPlain tr (F_X4_bendAt pn bd k)).1, (F_X5_tellPlain tr (F_X4_bendAt pn bd k)).2) else (if (F_X4_kindAt pn kd k) = (1 : Int32) then ((F_X5_tellCrook tr (F_X4_bendAt pn bd k)).1, (F_X5_tellCrook tr (F_X4_bendAt pn bd k)).2) else ((F_X5_tellDouble tr (F_X4_bendAt pn bd k)).1, (F_X5_tellDouble tr (F_X4_bendAt pn bd k)).2))))
set_option maxHeartbeats 4000000 in
set_option maxRecDepth 100000 in
theorem c_X5_tell (l : Launch) (D : va_G) (cI cO : ClassId) (h5 : Nat) (ash : Nat) (tr : Int32) (ft : Int32) (h4 : Nat) (a1 : Nat) (a2 : Nat) (a3 : Nat) (pn : Int32) (sl : Int32) (dr : Int32) (nw : Int32) (kd : Nat → Int32) (bd : Nat → Int32) (h2 : Nat) (h0 : Nat) (h1 : Nat) (k : Int32) : zW l yX5_tell wsX5_tell ({ frames := 4, cells := 0, slots := 0, locals := 85 } : Room) D cI cO [.ref h5, .int k] [(h5, .inr (5, [.ref h4, .ref h2, .ref h0, .ref h1, .ref ash, .int tr, .int ft])), (h4, .inr (4, [.ref a1, .ref a2, .ref a3, .int pn, .int sl, .int dr, .int nw])), (a1, .inl (cI, 9, .inl kd)), (a2, .inl (cI, 9, .inl bd))] [(h5, .inr (5, [.ref h4, .ref h2, .ref h0, .ref h1, .ref ash, .int ((F_X5_tell tr pn kd bd k).2), .int ft])), (h4, .inr (4, [.ref a1, .ref a2, .ref a3, .int pn, .int sl, .int dr, .int nw])), (a1, .inl (cI, 9, .inl kd)), (a2, .inl (cI, 9, .inl bd))] (some (.int ((F_X5_tell tr pn kd bd k).1))) := by
  refine zW_of (nL := 3) (cc := cX5_tell) (ret := some .int) (lv := [(0, .ref h5), (1, .int k)]) (by decide +kernel) rfl (Nat.le_of_ble_eq_true rfl) rfl (fun p e s m args below meth c C hr hlk => ?_)
  have hf := F_X5_tell.eq_1 tr pn kd bd k
  refine z_aload_n C dX5_tell_0 rfl 0 rfl ?_
  refine z_get (T := TX5) (v := .ref h4) C i_X5_tell_5 0 rfl rfl 0 (by decide) m_X5_tell_1 rfl rfl dX5_tell_1 ?_
  refine z_iload_n C dX5_tell_4 rfl 1 rfl ?_
  refine z_cVR (As := [.int k]) C (c_X4_isPin l D cI cO h4 a1 a2 a3 pn sl dr nw k) (cwV 1 C.2.2.2.2.1 gX5_tell_X4_isPin rfl rfl rfl hdV_X4_isPin ⟨Nat.le_of_ble_eq_true rfl, Nat.le_of_ble_eq_true rfl⟩) [1] rfl rfl 1 rfl rfl rfl _ rfl (Nat.le_of_ble_eq_true rfl) ⟨Nat.zero_le _, Nat.zero_le _⟩ dX5_tell_5 ?_
  generalize hu5 : (F_X4_isPin pn k) = u5 at hf ⊢
  refine z_if_ne (tgt := 13) C dX5_tell_8 (by decide) (fun c8 => ?_) (fun c8 => ?_)
  · rw [if_neg c8] at hf
    have b8 := c8
    rw [← hu5] at c8
    refine z_aload_n C dX5_tell_13 rfl 0 rfl ?_
    refine z_get (T := TX5) (v := .ref h4) C i_X5_tell_5 0 rfl rfl 0 (by decide) m_X5_tell_1 rfl rfl dX5_tell_14 ?_
    refine z_iload_n C dX5_tell_17 rfl 1 rfl ?_
    refine z_cVR (As := [.int k]) C (c_X4_bendAt l D cI cO h4 a1 a2 a3 pn sl dr nw bd k) (cwV 1 C.2.2.2.2.1 gX5_tell_X4_bendAt rfl rfl rfl hdV_X4_bendAt ⟨Nat.le_of_ble_eq_true rfl, Nat.le_of_ble_eq_true rfl⟩) [1, 3] rfl rfl 1 rfl rfl rfl _ rfl (Nat.le_of_ble_eq_true rfl) ⟨Nat.zero_le _, Nat.zero_le _⟩ dX5_tell_18 ?_
    generalize hu18 : (F_X4_bendAt pn bd k) = u18 at hf ⊢
    refine z_istore_n C [(0, .ref h5), (1, .int k), (2, .int u18)] dX5_tell_21 rfl (by decide) [1, 2, 0] rfl ?_
    refine z_aload_n C dX5_tell_22 rfl 0 rfl ?_
    refine z_get (T := TX5) (v := .ref h4) C i_X5_tell_5 0 rfl rfl 0 (by decide) m_X5_tell_1 rfl rfl dX5_tell_23 ?_
    refine z_iload_n C dX5_tell_26 rfl 1 rfl ?_
    refine z_cVR (As := [.int k]) C (c_X4_kindAt l D cI cO h4 a1 a2 a3 pn sl dr nw kd k) (cwV 1 C.2.2.2.2.1 gX5_tell_X4_kindAt rfl rfl rfl hdV_X4_kindAt ⟨Nat.le_of_ble_eq_true rfl, Nat.le_of_ble_eq_true rfl⟩) [1, 2] rfl rfl 1 rfl rfl rfl _ rfl (Nat.le_of_ble_eq_true rfl) ⟨Nat.zero_le _, Nat.zero_le _⟩ dX5_tell_27 ?_
    generalize hu27 : (F_X4_kindAt pn kd k) = u27 at hf ⊢
    by_cases c30_0 : u27 = (0 : Int32)
    · rw [if_pos c30_0] at hf
      refine z_lookup (tgt := 56) C dX5_tell_30 (by decide) (by rw [c30_0] <;> rfl) (by decide) ?_
      refine z_aload_n C dX5_tell_56 rfl 0 rfl ?_
      refine z_iload_n C dX5_tell_57 rfl 2 rfl ?_
      refine z_cVW (As := [.int u18]) C (c_X5_tellPlain l D cI cO h5 ash tr ft h4 h2 h0 h1 u18) (cwV 1 C.2.2.2.2.1 gX5_tell_X5_tellPlain rfl rfl rfl hdV_X5_tellPlain ⟨Nat.le_of_ble_eq_true rfl, Nat.le_of_ble_eq_true rfl⟩) [(h5, .inr (5, [.ref h4, .ref h2, .ref h0, .ref h1, .ref ash, .int ((F_X5_tellPlain tr u18).2), .int ft])), (h4, .inr (4, [.ref a1, .ref a2, .ref a3, .int pn, .int sl, .int dr, .int nw])), (a1, .inl (cI, 9, .inl kd)), (a2, .inl (cI, 9, .inl bd))] [0] rfl rfl (Eq.refl [h5]) rfl 0 rfl rfl rfl _ rfl (Nat.le_of_ble_eq_true rfl) ⟨Nat.zero_le _, Nat.zero_le _⟩ dX5_tell_58 ?_
      generalize hu58 : (F_X5_tellPlain tr u18) = u58 at hf ⊢
      exact z_iretW C hr hlk (by rw [hf]) (by rw [hf]) dX5_tell_61
    rw [if_neg c30_0] at hf
    by_cases c30_1 : u27 = (1 : Int32)
    · rw [if_pos c30_1] at hf
      refine z_lookup (tgt := 62) C dX5_tell_30 (by decide) (by rw [c30_1] <;> rfl) (by decide) ?_
      refine z_aload_n C dX5_tell_62 rfl 0 rfl ?_
      refine z_iload_n C dX5_tell_63 rfl 2 rfl ?_
      refine z_cVW (As := [.int u18]) C (c_X5_tellCrook l D cI cO h5 ash tr ft h4 h2 h0 h1 u18) (cwV 1 C.2.2.2.2.1 gX5_tell_X5_tellCrook rfl rfl rfl hdV_X5_tellCrook ⟨Nat.le_of_ble_eq_true rfl, Nat.le_of_ble_eq_true rfl⟩) [(h5, .inr (5, [.ref h4, .ref h2, .ref h0, .ref h1, .ref ash, .int ((F_X5_tellCrook tr u18).2), .int ft])), (h4, .inr (4, [.ref a1, .ref a2, .ref a3, .int pn, .int sl, .int dr, .int nw])), (a1, .inl (cI, 9, .inl kd)), (a2, .inl (cI, 9, .inl bd))] [0] rfl rfl (Eq.refl [h5]) rfl 0 rfl rfl rfl _ rfl (Nat.le_of_ble_eq_true rfl) ⟨Nat.zero_le _, Nat.zero_le _⟩ dX5_tell_64 ?_
      generalize hu64 : (F_X5_tellCrook tr u18) = u64 at hf ⊢
      exact z_iretW C hr hlk (by rw [hf]) (by rw [hf]) dX5_tell_67
    rw [if_neg c30_1] at hf
    refine z_lookup (tgt := 68) C dX5_tell_30 (by decide) (z_lkout2 c30_0 c30_1) (by decide) ?_
    refine z_aload_n C dX5_tell_68 rfl 0 rfl ?_
    refine z_iload_n C dX5_tell_69 rfl 2 rfl ?_
    refine z_cVW (As := [.int u18]) C (c_X5_tellDouble l D cI cO h5 ash tr ft h4 h2 h0 h1 u18) (cwV 1 C.2.2.2.2.1 gX5_tell_X5_tellDouble rfl rfl rfl hdV_X5_tellDouble ⟨Nat.le_of_ble_eq_true rfl, Nat.le_of_ble_eq_true rfl⟩) [(h5, .inr (5, [.ref h4, .ref h2, .ref h0, .ref h1, .ref ash, .int ((F_X5_tellDouble tr u18).2), .int ft])), (h4, .inr (4, [.ref a1, .ref a2, .ref a3, .int pn, .int sl, .int dr, .int nw])), (a1, .inl (cI, 9, .inl kd)), (a2, .inl (cI, 9, .inl bd))] [0] rfl rfl (Eq.refl [h5]) rfl 0 rfl rfl rfl _ rfl (Nat.le_of_ble_eq_true rfl) ⟨Nat.zero_le _, Nat.zero_le _⟩ dX5_tell_70 ?_
    generalize hu70 : (F_X5_tellDouble tr u18) = u70 at hf ⊢
    exact z_iretW C hr hlk (by rw [hf]) (by rw [hf]) dX5_tell_73
  · rw [if_pos c8] at hf
    have b8 := c8
    rw [← hu5] at c8
    refine z_iconst (v := (-1 : Int32)) C dX5_tell_11 (by decide) ?_
    exact z_iretW C hr hlk (by rw [hf]) (by rw [hf]) dX5_tell_12
-- X5_splash
theorem i_X5_splash_5 : ∀ w ∈ u_ws RX5 TX5 7, w ∈ wsX5_splash := by decide +kernel
theorem m_X5_splash_1 : Cond.fieldLink RX5 12 "WishPins" "lying" "LWishPins$Well;" ∈ wsX5_splash := List.mem_of_getElem? (i := 1) rfl
def F_X5_splash (tr : Int32) (pn : Int32) (kd : Nat → Int32) (k : Int32) : Int32 × Int32 :=
  (if (F_X4_isPin pn k) = 0 then ((-1 : Int32), tr) else (if (F_X4_kindAt pn kd k) = (2 : Int32) then ((50 : Int32), (F_X5_beginBody tr (5 : Int32))) else (k, (F_X5_beginBody tr (4 : Int32)))))
set_option maxHeartbeats 4000000 in
set_option maxRecDepth 100000 in
theorem c_X5_splash (l : Launch) (D : va_G) (cI cO : ClassId) (h5 : Nat) (ash : Nat) (tr : Int32) (ft : Int32) (h4 : Nat) (a1 : Nat) (a2 : Nat) (a3 : Nat) (pn : Int32) (sl : Int32) (dr : Int32) (nw : Int32) (kd : Nat → Int32) (h2 : Nat) (h0 : Nat) (h1 : Nat) (k : Int32) : zW l yX5_splash wsX5_splash ({ frames := 2, cells := 0, slots := 0, locals := 42 } : Room) D cI cO [.ref h5, .int k] [(h5, .inr (5, [.ref h4, .ref h2, .ref h0, .ref h1, .ref ash, .int tr, .int ft])), (h4, .inr (4, [.ref a1, .ref a2, .ref a3, .int pn, .int sl, .int dr, .int nw])), (a1, .inl (cI, 9, .inl kd))] [(h5, .inr (5, [.ref h4, .ref h2, .ref h0, .ref h1, .ref ash, .int ((F_X5_splash tr pn kd k).2), .int ft])), (h4, .inr (4, [.ref a1, .ref a2, .ref a3, .int pn, .int sl, .int dr, .int nw])), (a1, .inl (cI, 9, .inl kd))] (some (.int ((F_X5_splash tr pn kd k).1))) := by
  refine zW_of (nL := 2) (cc := cX5_splash) (ret := some .int) (lv := [(0, .ref h5), (1, .int k)]) (by decide +kernel) rfl (Nat.le_of_ble_eq_true rfl) rfl (fun p e s m args below meth c C hr hlk => ?_)
  have hf := F_X5_splash.eq_1 tr pn kd k
  refine z_aload_n C dX5_splash_0 rfl 0 rfl ?_
  refine z_get (T := TX5) (v := .ref h4) C i_X5_splash_5 0 rfl rfl 0 (by decide) m_X5_splash_1 rfl rfl dX5_splash_1 ?_
  refine z_iload_n C dX5_splash_4 rfl 1 rfl ?_
  refine z_cVR (As := [.int k]) C (c_X4_isPin l D cI cO h4 a1 a2 a3 pn sl dr nw k) (cwV 1 C.2.2.2.2.1 gX5_splash_X4_isPin rfl rfl rfl hdV_X4_isPin ⟨Nat.le_of_ble_eq_true rfl, Nat.le_of_ble_eq_true rfl⟩) [1] rfl rfl 1 rfl rfl rfl _ rfl (Nat.le_of_ble_eq_true rfl) ⟨Nat.zero_le _, Nat.zero_le _⟩ dX5_splash_5 ?_
  generalize hu5 : (F_X4_isPin pn k) = u5 at hf ⊢
  refine z_if_ne (tgt := 13) C dX5_splash_8 (by decide) (fun c8 => ?_) (fun c8 => ?_)
  · rw [if_neg c8] at hf
    have b8 := c8
    rw [← hu5] at c8
    refine z_aload_n C dX5_splash_13 rfl 0 rfl ?_
    refine z_get (T := TX5) (v := .ref h4) C i_X5_splash_5 0 rfl rfl 0 (by decide) m_X5_splash_1 rfl rfl dX5_splash_14 ?_
    refine z_iload_n C dX5_splash_17 rfl 1 rfl ?_
    refine z_cVR (As := [.int k]) C (c_X4_kindAt l D cI cO h4 a1 a2 a3 pn sl dr nw kd k) (cwV 1 C.2.2.2.2.1 gX5_splash_X4_kindAt rfl rfl rfl hdV_X4_kindAt ⟨Nat.le_of_ble_eq_true rfl, Nat.le_of_ble_eq_true rfl⟩) [1, 2] rfl rfl 1 rfl rfl rfl _ rfl (Nat.le_of_ble_eq_true rfl) ⟨Nat.zero_le _, Nat.zero_le _⟩ dX5_splash_18 ?_
    generalize hu18 : (F_X4_kindAt pn kd k) = u18 at hf ⊢
    refine z_iconst (v := (2 : Int32)) C dX5_splash_21 (by decide) ?_
    refine z_icmp_ne (tgt := 33) C dX5_splash_22 (by decide) (fun c22 => ?_) (fun c22 => ?_)
    · rw [if_neg c22] at hf
      have b22 := c22
      rw [← hu18] at c22
      refine z_aload_n C dX5_splash_33 rfl 0 rfl ?_
      refine z_iconst (v := (4 : Int32)) C dX5_splash_34 (by decide) ?_
      refine z_cVW (As := [.int (4 : Int32)]) C (c_X5_beginBody l D cI cO h5 ash tr ft h4 h2 h0 h1 (4 : Int32)) (cwV 1 C.2.2.2.2.1 gX5_splash_X5_beginBody rfl rfl rfl hdV_X5_beginBody ⟨Nat.le_of_ble_eq_true rfl, Nat.le_of_ble_eq_true rfl⟩) [(h5, .inr (5, [.ref h4, .ref h2, .ref h0, .ref h1, .ref ash, .int (F_X5_beginBody tr (4 : Int32)), .int ft])), (h4, .inr (4, [.ref a1, .ref a2, .ref a3, .int pn, .int sl, .int dr, .int nw])), (a1, .inl (cI, 9, .inl kd))] [0] rfl rfl (Eq.refl [h5]) rfl 0 rfl rfl rfl _ rfl (Nat.le_of_ble_eq_true rfl) ⟨Nat.zero_le _, Nat.zero_le _⟩ dX5_splash_35 ?_
      generalize hu35 : (F_X5_beginBody tr (4 : Int32)) = u35 at hf ⊢
      refine z_iload_n C dX5_splash_38 rfl 1 rfl ?_
      exact z_iretW C hr hlk (by rw [hf]) (by rw [hf]) dX5_splash_39
    · rw [if_pos c22] at hf
      have b22 := c22
      rw [← hu18] at c22
      refine z_aload_n C dX5_splash_25 rfl 0 rfl ?_
      refine z_iconst (v := (5 : Int32)) C dX5_splash_26 (by decide) ?_
      refine z_cVW (As := [.int (5 : Int32)]) C (c_X5_beginBody l D cI cO h5 ash tr ft h4 h2 h0 h1 (5 : Int32)) (cwV 1 C.2.2.2.2.1 gX5_splash_X5_beginBody rfl rfl rfl hdV_X5_beginBody ⟨Nat.le_of_ble_eq_true rfl, Nat.le_of_ble_eq_true rfl⟩) [(h5, .inr (5, [.ref h4, .ref h2, .ref h0, .ref h1, .ref ash, .int (F_X5_beginBody tr (5 : Int32)), .int ft])), (h4, .inr (4, [.ref a1, .ref a2, .ref a3, .int pn, .int sl, .int dr, .int nw])), (a1, .inl (cI, 9, .inl kd))] [0] rfl rfl (Eq.refl [h5]) rfl 0 rfl rfl rfl _ rfl (Nat.le_of_ble_eq_true rfl) ⟨Nat.zero_le _, Nat.zero_le _⟩ dX5_splash_27 ?_
      generalize hu27 : (F_X5_beginBody tr (5 : Int32)) = u27 at hf ⊢
      refine z_bipush (v := (50 : Int32)) C dX5_splash_30 (by decide) ?_
      exact z_iretW C hr hlk (by rw [hf]) (by rw [hf]) dX5_splash_32
  · rw [if_pos c8] at hf
    have b8 := c8
    rw [← hu5] at c8
    refine z_iconst (v := (-1 : Int32)) C dX5_splash_11 (by decide) ?_
    exact z_iretW C hr hlk (by rw [hf]) (by rw [hf]) dX5_splash_12
-- X5_as
theorem i_X5_as_5 : ∀ w ∈ u_ws RX5 TX5 7, w ∈ wsX5_as := by decide +kernel
theorem m_X5_as_1 : Cond.fieldLink RX5 46 "WishPins" "latestFault" "I" ∈ wsX5_as := List.mem_of_getElem? (i := 1) rfl
theorem m_X5_as_2 : Cond.fieldLink RX5 12 "WishPins" "lying" "LWishPins$Well;" ∈ wsX5_as := List.mem_of_getElem? (i := 2) rfl
def F_X5_as (pn : Int32) (kd : Nat → Int32) (k : Int32) (w : Int32) : Int32 × Int32 :=
  (if (F_X4_isPin pn k) = 0 then ((-1 : Int32), (0 : Int32)) else (if (F_X5_isKind w) = 0 then ((-2 : Int32), (0 : Int32)) else (if w ≤ (F_X4_kindAt pn kd k) then ((1 : Int32), (0 : Int32)) else ((F_X5_failed (2 : Int32)).1, (F_X5_failed (2 : Int32)).2))))
set_option maxHeartbeats 4000000 in
set_option maxRecDepth 100000 in
theorem c_X5_as (l : Launch) (D : va_G) (cI cO : ClassId) (h5 : Nat) (ash : Nat) (tr : Int32) (ft : Int32) (h4 : Nat) (a1 : Nat) (a2 : Nat) (a3 : Nat) (pn : Int32) (sl : Int32) (dr : Int32) (nw : Int32) (kd : Nat → Int32) (h2 : Nat) (h0 : Nat) (h1 : Nat) (k : Int32) (w : Int32) : zW l yX5_as wsX5_as ({ frames := 2, cells := 0, slots := 0, locals := 42 } : Room) D cI cO [.ref h5, .int k, .int w] [(h5, .inr (5, [.ref h4, .ref h2, .ref h0, .ref h1, .ref ash, .int tr, .int ft])), (h4, .inr (4, [.ref a1, .ref a2, .ref a3, .int pn, .int sl, .int dr, .int nw])), (a1, .inl (cI, 9, .inl kd))] [(h5, .inr (5, [.ref h4, .ref h2, .ref h0, .ref h1, .ref ash, .int tr, .int ((F_X5_as pn kd k w).2)])), (h4, .inr (4, [.ref a1, .ref a2, .ref a3, .int pn, .int sl, .int dr, .int nw])), (a1, .inl (cI, 9, .inl kd))] (some (.int ((F_X5_as pn kd k w).1))) := by
  refine zW_of (nL := 3) (cc := cX5_as) (ret := some .int) (lv := [(0, .ref h5), (1, .int k), (2, .int w)]) (by decide +kernel) rfl (Nat.le_of_ble_eq_true rfl) rfl (fun p e s m args below meth c C hr hlk => ?_)
  have hf := F_X5_as.eq_1 pn kd k w
  refine z_aload_n C dX5_as_0 rfl 0 rfl ?_
  refine z_iconst (v := (0 : Int32)) C dX5_as_1 (by decide) ?_
  refine z_put (T := TX5) (ty := .int) C [(h5, .inr (5, [.ref h4, .ref h2, .ref h0, .ref h1, .ref ash, .int tr, .int (0 : Int32)])), (h4, .inr (4, [.ref a1, .ref a2, .ref a3, .int pn, .int sl, .int dr, .int nw])), (a1, .inl (cI, 9, .inl kd))] i_X5_as_5 tyX5 tyX5_ok nmX5 0 rfl rfl 6 (by decide) m_X5_as_1 rfl rfl (by decide +kernel) rfl rfl (Nat.le_of_ble_eq_true rfl) dX5_as_2 rfl ?_
  refine z_aload_n C dX5_as_5 rfl 0 rfl ?_
  refine z_get (T := TX5) (v := .ref h4) C i_X5_as_5 0 rfl rfl 0 (by decide) m_X5_as_2 rfl rfl dX5_as_6 ?_
  refine z_iload_n C dX5_as_9 rfl 1 rfl ?_
  refine z_cVR (As := [.int k]) C (c_X4_isPin l D cI cO h4 a1 a2 a3 pn sl dr nw k) (cwV 1 C.2.2.2.2.1 gX5_as_X4_isPin rfl rfl rfl hdV_X4_isPin ⟨Nat.le_of_ble_eq_true rfl, Nat.le_of_ble_eq_true rfl⟩) [1] rfl rfl 1 rfl rfl rfl _ rfl (Nat.le_of_ble_eq_true rfl) ⟨Nat.zero_le _, Nat.zero_le _⟩ dX5_as_10 ?_
  generalize hu10 : (F_X4_isPin pn k) = u10 at hf ⊢
  refine z_if_ne (tgt := 18) C dX5_as_13 (by decide) (fun c13 => ?_) (fun c13 => ?_)
  · rw [if_neg c13] at hf
    have b13 := c13
    rw [← hu10] at c13
    refine z_iload_n C dX5_as_18 rfl 2 rfl ?_
    refine z_cSR (As := [.int w]) C (c_X5_isKind l D cI cO w) (va_cwS 1 C.2.2.2.2.1 gX5_as_X5_isKind rfl rfl rfl hdS_X5_isKind ⟨Nat.le_of_ble_eq_true rfl, Nat.le_of_ble_eq_true rfl⟩) [] rfl rfl rfl _ rfl (Nat.le_of_ble_eq_true rfl) ⟨Nat.zero_le _, Nat.zero_le _⟩ dX5_as_19 ?_
    generalize hu19 : (F_X5_isKind w) = u19 at hf ⊢
    refine z_if_ne (tgt := 28) C dX5_as_22 (by decide) (fun c22 => ?_) (fun c22 => ?_)
    · rw [if_neg c22] at hf
      have b22 := c22
      rw [← hu19] at c22
      refine z_aload_n C dX5_as_28 rfl 0 rfl ?_
      refine z_get (T := TX5) (v := .ref h4) C i_X5_as_5 0 rfl rfl 0 (by decide) m_X5_as_2 rfl rfl dX5_as_29 ?_
      refine z_iload_n C dX5_as_32 rfl 1 rfl ?_
      refine z_cVR (As := [.int k]) C (c_X4_kindAt l D cI cO h4 a1 a2 a3 pn sl dr nw kd k) (cwV 1 C.2.2.2.2.1 gX5_as_X4_kindAt rfl rfl rfl hdV_X4_kindAt ⟨Nat.le_of_ble_eq_true rfl, Nat.le_of_ble_eq_true rfl⟩) [1, 2] rfl rfl 1 rfl rfl rfl _ rfl (Nat.le_of_ble_eq_true rfl) ⟨Nat.zero_le _, Nat.zero_le _⟩ dX5_as_33 ?_
      generalize hu33 : (F_X4_kindAt pn kd k) = u33 at hf ⊢
      refine z_iload_n C dX5_as_36 rfl 2 rfl ?_
      refine z_icmp_ge (tgt := 46) C dX5_as_37 (by decide) (fun c37 => ?_) (fun c37 => ?_)
      · rw [if_pos c37] at hf
        have b37 := c37
        rw [← hu33] at c37
        refine z_iconst (v := (1 : Int32)) C dX5_as_46 (by decide) ?_
        exact z_iretW C hr hlk (by rw [hf]) (by rw [hf]) dX5_as_47
      · rw [if_neg c37] at hf
        have b37 := c37
        rw [← hu33] at c37
        refine z_aload_n C dX5_as_40 rfl 0 rfl ?_
        refine z_iconst (v := (2 : Int32)) C dX5_as_41 (by decide) ?_
        refine z_cVW (As := [.int (2 : Int32)]) C (c_X5_failed l D cI cO h5 ash tr (0 : Int32) h4 h2 h0 h1 (2 : Int32)) (cwV 1 C.2.2.2.2.1 gX5_as_X5_failed rfl rfl rfl hdV_X5_failed ⟨Nat.le_of_ble_eq_true rfl, Nat.le_of_ble_eq_true rfl⟩) [(h5, .inr (5, [.ref h4, .ref h2, .ref h0, .ref h1, .ref ash, .int tr, .int ((F_X5_failed (2 : Int32)).2)])), (h4, .inr (4, [.ref a1, .ref a2, .ref a3, .int pn, .int sl, .int dr, .int nw])), (a1, .inl (cI, 9, .inl kd))] [0] rfl rfl (Eq.refl [h5]) rfl 0 rfl rfl rfl _ rfl (Nat.le_of_ble_eq_true rfl) ⟨Nat.zero_le _, Nat.zero_le _⟩ dX5_as_42 ?_
        generalize hu42 : (F_X5_failed (2 : Int32)) = u42 at hf ⊢
        exact z_iretW C hr hlk (by rw [hf]) (by rw [hf]) dX5_as_45
    · rw [if_pos c22] at hf
      have b22 := c22
      rw [← hu19] at c22
      refine z_bipush (v := (-2 : Int32)) C dX5_as_25 (by decide) ?_
      exact z_iretW C hr hlk (by rw [hf]) (by rw [hf]) dX5_as_27
  · rw [if_pos c13] at hf
    have b13 := c13
    rw [← hu10] at c13
    refine z_iconst (v := (-1 : Int32)) C dX5_as_16 (by decide) ?_
    exact z_iretW C hr hlk (by rw [hf]) (by rw [hf]) dX5_as_17
-- X5_wished
theorem i_X5_wished_5 : ∀ w ∈ u_ws RX5 TX5 7, w ∈ wsX5_wished := by decide +kernel
theorem m_X5_wished_1 : Cond.fieldLink RX5 12 "WishPins" "lying" "LWishPins$Well;" ∈ wsX5_wished := List.mem_of_getElem? (i := 1) rfl
theorem i_X5_wished_4 : ∀ w ∈ u_ws RX4 TX4 7, w ∈ wsX5_wished := by decide +kernel
theorem m_X5_wished_2 : Cond.fieldLink RX5 79 "WishPins$Well" "pins" "I" ∈ wsX5_wished := List.mem_of_getElem? (i := 2) rfl
def F_X5_wished_k24 (x2_24 : Int32) (x3_24 : Int32) : Int32 :=
  x2_24
def F_X5_wished_l24 (pn : Int32) (sl : Int32) (dr : Int32) (kd : Nat → Int32) (bd : Nat → Int32) (yr : Nat → Int32) (v : Int32) (K_ : Int32 → Int32 → Int32) : Nat → Int32 → Int32 → Int32
  | 0, x2_24, x3_24 => K_ x2_24 x3_24
  | d24 + 1, x2_24, x3_24 => (if pn ≤ x3_24 then (K_ x2_24 x3_24) else (if (F_X4_wishAt pn sl dr kd bd yr x3_24) = v then (F_X5_wished_l24 pn sl dr kd bd yr v K_ d24 (x2_24 ||| ((1 : Int32) <<< (x3_24 &&& 31))) (x3_24 + (1 : Int32))) else (F_X5_wished_l24 pn sl dr kd bd yr v K_ d24 x2_24 (x3_24 + (1 : Int32)))))
def F_X5_wished (pn : Int32) (sl : Int32) (dr : Int32) (kd : Nat → Int32) (bd : Nat → Int32) (yr : Nat → Int32) (v : Int32) : Int32 :=
  (if (F_X5_hasWell pn) = 0 then (-3 : Int32) else (if (F_X5_isWish v) = 0 then (-2 : Int32) else (F_X5_wished_l24 pn sl dr kd bd yr v F_X5_wished_k24 10 (0 : Int32) (0 : Int32))))
set_option maxHeartbeats 4000000 in
set_option maxRecDepth 100000 in
theorem c_X5_wished (l : Launch) (D : va_G) (cI cO : ClassId) (h5 : Nat) (ash : Nat) (tr : Int32) (ft : Int32) (h4 : Nat) (a1 : Nat) (a2 : Nat) (a3 : Nat) (pn : Int32) (sl : Int32) (dr : Int32) (nw : Int32) (kd : Nat → Int32) (bd : Nat → Int32) (yr : Nat → Int32) (h2 : Nat) (h0 : Nat) (h1 : Nat) (v : Int32) (np : Nat) (hpn : pn = nI np) (hnp : np ≤ 9) : zR l yX5_wished wsX5_wished ({ frames := 2, cells := 0, slots := 0, locals := 44 } : Room) D cI cO [.ref h5, .int v] [(h5, .inr (5, [.ref h4, .ref h2, .ref h0, .ref h1, .ref ash, .int tr, .int ft])), (h4, .inr (4, [.ref a1, .ref a2, .ref a3, .int pn, .int sl, .int dr, .int nw])), (a1, .inl (cI, 9, .inl kd)), (a2, .inl (cI, 9, .inl bd)), (a3, .inl (cI, 9, .inl yr))] (some (.int (F_X5_wished pn sl dr kd bd yr v))) := by
  refine zR_of (nL := 4) (cc := cX5_wished) (ret := some .int) (lv := [(0, .ref h5), (1, .int v)]) (by decide +kernel) rfl (Nat.le_of_ble_eq_true rfl) rfl (fun p e s m args below meth c C hr hlk => ?_)
  have hf := F_X5_wished.eq_1 pn sl dr kd bd yr v
  refine z_aload_n C dX5_wished_0 rfl 0 rfl ?_
  refine z_cVR (As := []) C (c_X5_hasWell l D cI cO h5 ash tr ft h4 a1 a2 a3 pn sl dr nw h2 h0 h1) (cwV 0 C.2.2.2.2.1 gX5_wished_X5_hasWell rfl rfl rfl hdV_X5_hasWell ⟨Nat.le_of_ble_eq_true rfl, Nat.le_of_ble_eq_true rfl⟩) [0, 1] rfl rfl 0 rfl rfl rfl _ rfl (Nat.le_of_ble_eq_true rfl) ⟨Nat.zero_le _, Nat.zero_le _⟩ dX5_wished_1 ?_
  generalize hu1 : (F_X5_hasWell pn) = u1 at hf ⊢
  refine z_if_ne (tgt := 10) C dX5_wished_4 (by decide) (fun c4 => ?_) (fun c4 => ?_)
  · rw [if_neg c4] at hf
    have b4 := c4
    rw [← hu1] at c4
    refine z_iload_n C dX5_wished_10 rfl 1 rfl ?_
    refine z_cSR (As := [.int v]) C (c_X5_isWish l D cI cO v) (va_cwS 1 C.2.2.2.2.1 gX5_wished_X5_isWish rfl rfl rfl hdS_X5_isWish ⟨Nat.le_of_ble_eq_true rfl, Nat.le_of_ble_eq_true rfl⟩) [] rfl rfl rfl _ rfl (Nat.le_of_ble_eq_true rfl) ⟨Nat.zero_le _, Nat.zero_le _⟩ dX5_wished_11 ?_
    generalize hu11 : (F_X5_isWish v) = u11 at hf ⊢
    refine z_if_ne (tgt := 20) C dX5_wished_14 (by decide) (fun c14 => ?_) (fun c14 => ?_)
    · rw [if_neg c14] at hf
      have b14 := c14
      rw [← hu11] at c14
      refine z_iconst (v := (0 : Int32)) C dX5_wished_20 (by decide) ?_
      refine z_istore_n C [(0, .ref h5), (1, .int v), (2, .int (0 : Int32))] dX5_wished_21 rfl (by decide) [1, 2, 0] rfl ?_
      refine z_iconst (v := (0 : Int32)) C dX5_wished_22 (by decide) ?_
      refine z_istore_n C [(0, .ref h5), (1, .int v), (2, .int (0 : Int32)), (3, .int (0 : Int32))] dX5_wished_23 rfl (by decide) [1, 2, 3, 0] rfl ?_
      have X24 : ∀ (x2_24 : Int32) (x3_24 : Int32), F_X5_wished pn sl dr kd bd yr v = F_X5_wished_k24 x2_24 x3_24 → zG p l e ({ frames := 2, cells := 0, slots := 0, locals := 44 } : Room) s m args below meth c D (fun _ => True) (zXr s) 4 0 0 (MQ below (zQr (some (.int (F_X5_wished pn sl dr kd bd yr v)))) args s 0 0 (fun _ => False)) 59 [(0, .ref h5), (1, .int v), (2, .int x2_24), (3, .int x3_24)] [] [(h5, .inr (5, [.ref h4, .ref h2, .ref h0, .ref h1, .ref ash, .int tr, .int ft])), (h4, .inr (4, [.ref a1, .ref a2, .ref a3, .int pn, .int sl, .int dr, .int nw])), (a1, .inl (cI, 9, .inl kd)), (a2, .inl (cI, 9, .inl bd)), (a3, .inl (cI, 9, .inl yr))] := by
        intro x2_24 x3_24 hf
        rw [F_X5_wished_k24] at hf
        skip
        refine z_iload_n C dX5_wished_59 rfl 2 rfl ?_
        exact z_iretR C hr hlk (by rw [hf]) dX5_wished_60
      have L24 : ∀ (d24 : Nat) (j : Nat) (x2_24 : Int32) (x3_24 : Int32) (e3 : x3_24 = nI j) (hj : j ≤ np) (hd : np < j + d24), F_X5_wished pn sl dr kd bd yr v = F_X5_wished_l24 pn sl dr kd bd yr v F_X5_wished_k24 d24 x2_24 x3_24 → zG p l e ({ frames := 2, cells := 0, slots := 0, locals := 44 } : Room) s m args below meth c D (fun _ => True) (zXr s) 4 0 0 (MQ below (zQr (some (.int (F_X5_wished pn sl dr kd bd yr v)))) args s 0 0 (fun _ => False)) 24 [(0, .ref h5), (1, .int v), (2, .int x2_24), (3, .int x3_24)] [] [(h5, .inr (5, [.ref h4, .ref h2, .ref h0, .ref h1, .ref ash, .int tr, .int ft])), (h4, .inr (4, [.ref a1, .ref a2, .ref a3, .int pn, .int sl, .int dr, .int nw])), (a1, .inl (cI, 9, .inl kd)), (a2, .inl (cI, 9, .inl bd)), (a3, .inl (cI, 9, .inl yr))] := by
        intro d24
        induction d24 with
        | zero =>
          intro j x2_24 x3_24 e3 hj hd hf
          exfalso; omega
        | succ d24 ih24 =>
          intro j x2_24 x3_24 e3 hj hd hf
          rw [F_X5_wished_l24] at hf
          skip
          refine z_iload_n C dX5_wished_24 rfl 3 rfl ?_
          refine z_aload_n C dX5_wished_25 rfl 0 rfl ?_
          refine z_get (T := TX5) (v := .ref h4) C i_X5_wished_5 0 rfl rfl 0 (by decide) m_X5_wished_1 rfl rfl dX5_wished_26 ?_
          refine z_get (T := TX4) (v := .int pn) C i_X5_wished_4 1 rfl rfl 3 (by decide) m_X5_wished_2 rfl rfl dX5_wished_29 ?_
          refine z_icmp_ge (tgt := 59) C dX5_wished_32 (by decide) (fun c32 => ?_) (fun c32 => ?_)
          · rw [if_pos c32] at hf
            exact X24 x2_24 x3_24  hf
          · rw [if_neg c32] at hf
            refine z_aload_n C dX5_wished_35 rfl 0 rfl ?_
            refine z_get (T := TX5) (v := .ref h4) C i_X5_wished_5 0 rfl rfl 0 (by decide) m_X5_wished_1 rfl rfl dX5_wished_36 ?_
            refine z_iload_n C dX5_wished_39 rfl 3 rfl ?_
            refine z_cVR (As := [.int x3_24]) C (c_X4_wishAt l D cI cO h4 a1 a2 a3 pn sl dr nw kd bd yr x3_24) (cwV 1 C.2.2.2.2.1 gX5_wished_X4_wishAt rfl rfl rfl hdV_X4_wishAt ⟨Nat.le_of_ble_eq_true rfl, Nat.le_of_ble_eq_true rfl⟩) [1, 2, 3, 4] rfl rfl 1 rfl rfl rfl _ rfl (Nat.le_of_ble_eq_true rfl) ⟨Nat.zero_le _, Nat.zero_le _⟩ dX5_wished_40 ?_
            generalize hu40 : (F_X4_wishAt pn sl dr kd bd yr x3_24) = u40 at hf ⊢
            refine z_iload_n C dX5_wished_43 rfl 1 rfl ?_
            refine z_icmp_ne (tgt := 53) C dX5_wished_44 (by decide) (fun c44 => ?_) (fun c44 => ?_)
            · rw [if_neg c44] at hf
              have b44 := c44
              rw [← hu40] at c44
              refine z_iinc (v := (x3_24 + (1 : Int32))) C [(0, .ref h5), (1, .int v), (2, .int x2_24), (3, .int (x3_24 + (1 : Int32)))] dX5_wished_53 3 rfl (by rfl) (by decide) [1, 2, 3, 0] rfl ?_
              refine z_goto (tgt := 24) C dX5_wished_56 (by decide) ?_
              exact ih24 (j + 1) x2_24 (x3_24 + (1 : Int32)) (by subst hu40 hu11 hu1; exact (by rw [e3]; exact nI_1 j)) (by subst hu40 hu11 hu1; exact (by have := z_jlt e3 (by omega) (z_tiN hpn (by omega)) c32; omega)) (by omega) hf
            · rw [if_pos c44] at hf
              have b44 := c44
              rw [← hu40] at c44
              refine z_iload_n C dX5_wished_47 rfl 2 rfl ?_
              refine z_iconst (v := (1 : Int32)) C dX5_wished_48 (by decide) ?_
              refine z_iload_n C dX5_wished_49 rfl 3 rfl ?_
              refine z_ishl C dX5_wished_50 ?_
              refine z_ior C dX5_wished_51 ?_
              refine z_istore_n C [(0, .ref h5), (1, .int v), (2, .int (x2_24 ||| ((1 : Int32) <<< (x3_24 &&& 31)))), (3, .int x3_24)] dX5_wished_52 rfl (by decide) [1, 2, 0, 3] rfl ?_
              refine z_iinc (v := (x3_24 + (1 : Int32))) C [(0, .ref h5), (1, .int v), (2, .int (x2_24 ||| ((1 : Int32) <<< (x3_24 &&& 31)))), (3, .int (x3_24 + (1 : Int32)))] dX5_wished_53 3 rfl (by rfl) (by decide) [1, 2, 3, 0] rfl ?_
              refine z_goto (tgt := 24) C dX5_wished_56 (by decide) ?_
              exact ih24 (j + 1) (x2_24 ||| ((1 : Int32) <<< (x3_24 &&& 31))) (x3_24 + (1 : Int32)) (by subst hu40 hu11 hu1; exact (by rw [e3]; exact nI_1 j)) (by subst hu40 hu11 hu1; exact (by have := z_jlt e3 (by omega) (z_tiN hpn (by omega)) c32; omega)) (by omega) hf
      exact L24 10 0 (0 : Int32) (0 : Int32) (by subst hu11 hu1; exact nI_0.symm) (by subst hu11 hu1; exact (Nat.zero_le _)) (by omega) hf
    · rw [if_pos c14] at hf
      have b14 := c14
      rw [← hu11] at c14
      refine z_bipush (v := (-2 : Int32)) C dX5_wished_17 (by decide) ?_
      exact z_iretR C hr hlk (by rw [hf]) dX5_wished_19
  · rw [if_pos c4] at hf
    have b4 := c4
    rw [← hu1] at c4
    refine z_bipush (v := (-3 : Int32)) C dX5_wished_7 (by decide) ?_
    exact z_iretR C hr hlk (by rw [hf]) dX5_wished_9
-- X5_quiet
theorem i_X5_quiet_5 : ∀ w ∈ u_ws RX5 TX5 7, w ∈ wsX5_quiet := by decide +kernel
theorem m_X5_quiet_1 : Cond.fieldLink RX5 12 "WishPins" "lying" "LWishPins$Well;" ∈ wsX5_quiet := List.mem_of_getElem? (i := 1) rfl
theorem i_X5_quiet_4 : ∀ w ∈ u_ws RX4 TX4 7, w ∈ wsX5_quiet := by decide +kernel
theorem m_X5_quiet_2 : Cond.fieldLink RX5 79 "WishPins$Well" "pins" "I" ∈ wsX5_quiet := List.mem_of_getElem? (i := 2) rfl
theorem m_X5_quiet_3 : Cond.fieldLink RX5 101 "WishPins$Well" "now" "I" ∈ wsX5_quiet := List.mem_of_getElem? (i := 3) rfl
def F_X5_quiet_k32 (w : Int32) (x2_32 : Int32) (x3_32 : Int32) (x4_32 : Int32) (x5_32 : Int32) : Int32 :=
  (if w = 0 then x2_32 else x3_32)
def F_X5_quiet_l32 (pn : Int32) (nw : Int32) (yr : Nat → Int32) (K_ : Int32 → Int32 → Int32 → Int32 → Int32) : Nat → Int32 → Int32 → Int32 → Int32 → Int32
  | 0, x2_32, x3_32, x4_32, x5_32 => K_ x2_32 x3_32 x4_32 x5_32
  | d32 + 1, x2_32, x3_32, x4_32, x5_32 => (if pn < x5_32 then (K_ x2_32 x3_32 x4_32 x5_32) else (if pn ≤ x5_32 then (if (nw - x4_32) ≤ x2_32 then (F_X5_quiet_l32 pn nw yr K_ d32 x2_32 x3_32 nw (x5_32 + (1 : Int32))) else (F_X5_quiet_l32 pn nw yr K_ d32 (nw - x4_32) x4_32 nw (x5_32 + (1 : Int32)))) else (if ((F_X4_yearAt pn yr x5_32) - x4_32) ≤ x2_32 then (F_X5_quiet_l32 pn nw yr K_ d32 x2_32 x3_32 (F_X4_yearAt pn yr x5_32) (x5_32 + (1 : Int32))) else (F_X5_quiet_l32 pn nw yr K_ d32 ((F_X4_yearAt pn yr x5_32) - x4_32) x4_32 (F_X4_yearAt pn yr x5_32) (x5_32 + (1 : Int32))))))
def F_X5_quiet_j22 (pn : Int32) (nw : Int32) (yr : Nat → Int32) (w : Int32) : Int32 :=
  (F_X5_quiet_l32 pn nw yr (F_X5_quiet_k32 w) 11 (-1 : Int32) (0 : Int32) (0 : Int32) (0 : Int32))
def F_X5_quiet (pn : Int32) (nw : Int32) (yr : Nat → Int32) (w : Int32) : Int32 :=
  (if (F_X5_hasWell pn) = 0 then (-3 : Int32) else (if w = 0 then (F_X5_quiet_j22 pn nw yr w) else (if w = (1 : Int32) then (F_X5_quiet_j22 pn nw yr w) else (-2 : Int32))))
set_option maxHeartbeats 4000000 in
set_option maxRecDepth 100000 in
theorem c_X5_quiet (l : Launch) (D : va_G) (cI cO : ClassId) (h5 : Nat) (ash : Nat) (tr : Int32) (ft : Int32) (h4 : Nat) (a1 : Nat) (a2 : Nat) (a3 : Nat) (pn : Int32) (sl : Int32) (dr : Int32) (nw : Int32) (yr : Nat → Int32) (h2 : Nat) (h0 : Nat) (h1 : Nat) (w : Int32) (np : Nat) (hpn : pn = nI np) (hnp : np ≤ 9) : zR l yX5_quiet wsX5_quiet ({ frames := 2, cells := 0, slots := 0, locals := 42 } : Room) D cI cO [.ref h5, .int w] [(h5, .inr (5, [.ref h4, .ref h2, .ref h0, .ref h1, .ref ash, .int tr, .int ft])), (h4, .inr (4, [.ref a1, .ref a2, .ref a3, .int pn, .int sl, .int dr, .int nw])), (a3, .inl (cI, 9, .inl yr))] (some (.int (F_X5_quiet pn nw yr w))) := by
  refine zR_of (nL := 7) (cc := cX5_quiet) (ret := some .int) (lv := [(0, .ref h5), (1, .int w)]) (by decide +kernel) rfl (Nat.le_of_ble_eq_true rfl) rfl (fun p e s m args below meth c C hr hlk => ?_)
  have hf := F_X5_quiet.eq_1 pn nw yr w
  refine z_aload_n C dX5_quiet_0 rfl 0 rfl ?_
  refine z_cVR (As := []) C (c_X5_hasWell l D cI cO h5 ash tr ft h4 a1 a2 a3 pn sl dr nw h2 h0 h1) (cwV 0 C.2.2.2.2.1 gX5_quiet_X5_hasWell rfl rfl rfl hdV_X5_hasWell ⟨Nat.le_of_ble_eq_true rfl, Nat.le_of_ble_eq_true rfl⟩) [0, 1] rfl rfl 0 rfl rfl rfl _ rfl (Nat.le_of_ble_eq_true rfl) ⟨Nat.zero_le _, Nat.zero_le _⟩ dX5_quiet_1 ?_
  generalize hu1 : (F_X5_hasWell pn) = u1 at hf ⊢
  refine z_if_ne (tgt := 10) C dX5_quiet_4 (by decide) (fun c4 => ?_) (fun c4 => ?_)
  · rw [if_neg c4] at hf
    have b4 := c4
    rw [← hu1] at c4
    refine z_iload_n C dX5_quiet_10 rfl 1 rfl ?_
    have J22 : F_X5_quiet pn nw yr w = F_X5_quiet_j22 pn nw yr w → zG p l e ({ frames := 2, cells := 0, slots := 0, locals := 42 } : Room) s m args below meth c D (fun _ => True) (zXr s) 7 0 0 (MQ below (zQr (some (.int (F_X5_quiet pn nw yr w)))) args s 0 0 (fun _ => False)) 22 [(0, .ref h5), (1, .int w)] [] [(h5, .inr (5, [.ref h4, .ref h2, .ref h0, .ref h1, .ref ash, .int tr, .int ft])), (h4, .inr (4, [.ref a1, .ref a2, .ref a3, .int pn, .int sl, .int dr, .int nw])), (a3, .inl (cI, 9, .inl yr))] := by
      intro hf
      rw [F_X5_quiet_j22] at hf
      skip
      refine z_iconst (v := (-1 : Int32)) C dX5_quiet_22 (by decide) ?_
      refine z_istore_n C [(0, .ref h5), (1, .int w), (2, .int (-1 : Int32))] dX5_quiet_23 rfl (by decide) [1, 2, 0] rfl ?_
      refine z_iconst (v := (0 : Int32)) C dX5_quiet_24 (by decide) ?_
      refine z_istore_n C [(0, .ref h5), (1, .int w), (2, .int (-1 : Int32)), (3, .int (0 : Int32))] dX5_quiet_25 rfl (by decide) [1, 2, 3, 0] rfl ?_
      refine z_iconst (v := (0 : Int32)) C dX5_quiet_26 (by decide) ?_
      refine z_istore C [(0, .ref h5), (1, .int w), (2, .int (-1 : Int32)), (3, .int (0 : Int32)), (4, .int (0 : Int32))] dX5_quiet_27 (by decide) [1, 2, 3, 4, 0] rfl ?_
      refine z_iconst (v := (0 : Int32)) C dX5_quiet_29 (by decide) ?_
      refine z_istore C [(0, .ref h5), (1, .int w), (2, .int (-1 : Int32)), (3, .int (0 : Int32)), (4, .int (0 : Int32)), (5, .int (0 : Int32))] dX5_quiet_30 (by decide) [1, 2, 3, 4, 5, 0] rfl ?_
      have X32 : ∀ (x2_32 : Int32) (x3_32 : Int32) (x4_32 : Int32) (x5_32 : Int32), F_X5_quiet pn nw yr w = (F_X5_quiet_k32 w) x2_32 x3_32 x4_32 x5_32 → zG p l e ({ frames := 2, cells := 0, slots := 0, locals := 42 } : Room) s m args below meth c D (fun _ => True) (zXr s) 7 0 0 (MQ below (zQr (some (.int (F_X5_quiet pn nw yr w)))) args s 0 0 (fun _ => False)) 105 [(0, .ref h5), (1, .int w), (2, .int x2_32), (3, .int x3_32), (4, .int x4_32), (5, .int x5_32)] [] [(h5, .inr (5, [.ref h4, .ref h2, .ref h0, .ref h1, .ref ash, .int tr, .int ft])), (h4, .inr (4, [.ref a1, .ref a2, .ref a3, .int pn, .int sl, .int dr, .int nw])), (a3, .inl (cI, 9, .inl yr))] := by
        intro x2_32 x3_32 x4_32 x5_32 hf
        rw [F_X5_quiet_k32] at hf
        skip
        refine z_iload_n C dX5_quiet_105 rfl 1 rfl ?_
        refine z_if_ne (tgt := 113) C dX5_quiet_106 (by decide) (fun c106 => ?_) (fun c106 => ?_)
        · rw [if_neg c106] at hf
          refine z_iload_n C dX5_quiet_113 rfl 3 rfl ?_
          exact z_iretR C hr hlk (by rw [hf]) dX5_quiet_114
        · rw [if_pos c106] at hf
          refine z_iload_n C dX5_quiet_109 rfl 2 rfl ?_
          refine z_goto (tgt := 114) C dX5_quiet_110 (by decide) ?_
          exact z_iretR C hr hlk (by rw [hf]) dX5_quiet_114
      have L32 : ∀ (d32 : Nat) (j : Nat) (x2_32 : Int32) (x3_32 : Int32) (x4_32 : Int32) (x5_32 : Int32) (e5 : x5_32 = nI j) (hj : j ≤ (np + 1)) (hd : (np + 1) < j + d32), F_X5_quiet pn nw yr w = F_X5_quiet_l32 pn nw yr (F_X5_quiet_k32 w) d32 x2_32 x3_32 x4_32 x5_32 → zG p l e ({ frames := 2, cells := 0, slots := 0, locals := 42 } : Room) s m args below meth c D (fun _ => True) (zXr s) 7 0 0 (MQ below (zQr (some (.int (F_X5_quiet pn nw yr w)))) args s 0 0 (fun _ => False)) 32 [(0, .ref h5), (1, .int w), (2, .int x2_32), (3, .int x3_32), (4, .int x4_32), (5, .int x5_32)] [] [(h5, .inr (5, [.ref h4, .ref h2, .ref h0, .ref h1, .ref ash, .int tr, .int ft])), (h4, .inr (4, [.ref a1, .ref a2, .ref a3, .int pn, .int sl, .int dr, .int nw])), (a3, .inl (cI, 9, .inl yr))] := by
        intro d32
        induction d32 with
        | zero =>
          intro j x2_32 x3_32 x4_32 x5_32 e5 hj hd hf
          exfalso; omega
        | succ d32 ih32 =>
          intro j x2_32 x3_32 x4_32 x5_32 e5 hj hd hf
          rw [F_X5_quiet_l32] at hf
          skip
          refine z_iload C dX5_quiet_32 5 rfl ?_
          refine z_aload_n C dX5_quiet_34 rfl 0 rfl ?_
          refine z_get (T := TX5) (v := .ref h4) C i_X5_quiet_5 0 rfl rfl 0 (by decide) m_X5_quiet_1 rfl rfl dX5_quiet_35 ?_
          refine z_get (T := TX4) (v := .int pn) C i_X5_quiet_4 1 rfl rfl 3 (by decide) m_X5_quiet_2 rfl rfl dX5_quiet_38 ?_
          refine z_icmp_gt (tgt := 105) C dX5_quiet_41 (by decide) (fun c41 => ?_) (fun c41 => ?_)
          · rw [if_pos c41] at hf
            exact X32 x2_32 x3_32 x4_32 x5_32  hf
          · rw [if_neg c41] at hf
            refine z_iload C dX5_quiet_44 5 rfl ?_
            refine z_aload_n C dX5_quiet_46 rfl 0 rfl ?_
            refine z_get (T := TX5) (v := .ref h4) C i_X5_quiet_5 0 rfl rfl 0 (by decide) m_X5_quiet_1 rfl rfl dX5_quiet_47 ?_
            refine z_get (T := TX4) (v := .int pn) C i_X5_quiet_4 1 rfl rfl 3 (by decide) m_X5_quiet_2 rfl rfl dX5_quiet_50 ?_
            refine z_icmp_ge (tgt := 68) C dX5_quiet_53 (by decide) (fun c53 => ?_) (fun c53 => ?_)
            · rw [if_pos c53] at hf
              refine z_aload_n C dX5_quiet_68 rfl 0 rfl ?_
              refine z_get (T := TX5) (v := .ref h4) C i_X5_quiet_5 0 rfl rfl 0 (by decide) m_X5_quiet_1 rfl rfl dX5_quiet_69 ?_
              refine z_get (T := TX4) (v := .int nw) C i_X5_quiet_4 1 rfl rfl 6 (by decide) m_X5_quiet_3 rfl rfl dX5_quiet_72 ?_
              refine z_istore C [(0, .ref h5), (1, .int w), (2, .int x2_32), (3, .int x3_32), (4, .int x4_32), (5, .int x5_32), (6, .int nw)] dX5_quiet_75 (by decide) [1, 2, 3, 4, 5, 6, 0] rfl ?_
              refine z_iload C dX5_quiet_77 6 rfl ?_
              refine z_iload C dX5_quiet_79 4 rfl ?_
              refine z_isub C dX5_quiet_81 ?_
              refine z_iload_n C dX5_quiet_82 rfl 2 rfl ?_
              refine z_icmp_le (tgt := 95) C dX5_quiet_83 (by decide) (fun c83 => ?_) (fun c83 => ?_)
              · rw [if_pos c83] at hf
                refine z_iload C dX5_quiet_95 6 rfl ?_
                refine z_istore C [(0, .ref h5), (1, .int w), (2, .int x2_32), (3, .int x3_32), (4, .int nw), (5, .int x5_32), (6, .int nw)] dX5_quiet_97 (by decide) [1, 2, 3, 4, 0, 5, 6] rfl ?_
                refine z_iinc (v := (x5_32 + (1 : Int32))) C [(0, .ref h5), (1, .int w), (2, .int x2_32), (3, .int x3_32), (4, .int nw), (5, .int (x5_32 + (1 : Int32))), (6, .int nw)] dX5_quiet_99 5 rfl (by rfl) (by decide) [1, 2, 3, 4, 5, 0, 6] rfl ?_
                refine z_goto (tgt := 32) C dX5_quiet_102 (by decide) ?_
                refine z_ls [(0, .ref h5), (1, .int w), (2, .int x2_32), (3, .int x3_32), (4, .int nw), (5, .int (x5_32 + (1 : Int32)))] [0, 1, 2, 3, 4, 5] rfl ?_
                exact ih32 (j + 1) x2_32 x3_32 nw (x5_32 + (1 : Int32)) (by subst hu1; exact (by rw [e5]; exact nI_1 j)) (by subst hu1; exact (by have := z_jle e5 (by omega) (z_tiN hpn (by omega)) c41; omega)) (by omega) hf
              · rw [if_neg c83] at hf
                refine z_iload C dX5_quiet_86 6 rfl ?_
                refine z_iload C dX5_quiet_88 4 rfl ?_
                refine z_isub C dX5_quiet_90 ?_
                refine z_istore_n C [(0, .ref h5), (1, .int w), (2, .int (nw - x4_32)), (3, .int x3_32), (4, .int x4_32), (5, .int x5_32), (6, .int nw)] dX5_quiet_91 rfl (by decide) [1, 2, 0, 3, 4, 5, 6] rfl ?_
                refine z_iload C dX5_quiet_92 4 rfl ?_
                refine z_istore_n C [(0, .ref h5), (1, .int w), (2, .int (nw - x4_32)), (3, .int x4_32), (4, .int x4_32), (5, .int x5_32), (6, .int nw)] dX5_quiet_94 rfl (by decide) [1, 2, 3, 0, 4, 5, 6] rfl ?_
                refine z_iload C dX5_quiet_95 6 rfl ?_
                refine z_istore C [(0, .ref h5), (1, .int w), (2, .int (nw - x4_32)), (3, .int x4_32), (4, .int nw), (5, .int x5_32), (6, .int nw)] dX5_quiet_97 (by decide) [1, 2, 3, 4, 0, 5, 6] rfl ?_
                refine z_iinc (v := (x5_32 + (1 : Int32))) C [(0, .ref h5), (1, .int w), (2, .int (nw - x4_32)), (3, .int x4_32), (4, .int nw), (5, .int (x5_32 + (1 : Int32))), (6, .int nw)] dX5_quiet_99 5 rfl (by rfl) (by decide) [1, 2, 3, 4, 5, 0, 6] rfl ?_
                refine z_goto (tgt := 32) C dX5_quiet_102 (by decide) ?_
                refine z_ls [(0, .ref h5), (1, .int w), (2, .int (nw - x4_32)), (3, .int x4_32), (4, .int nw), (5, .int (x5_32 + (1 : Int32)))] [0, 1, 2, 3, 4, 5] rfl ?_
                exact ih32 (j + 1) (nw - x4_32) x4_32 nw (x5_32 + (1 : Int32)) (by subst hu1; exact (by rw [e5]; exact nI_1 j)) (by subst hu1; exact (by have := z_jle e5 (by omega) (z_tiN hpn (by omega)) c41; omega)) (by omega) hf
            · rw [if_neg c53] at hf
              refine z_aload_n C dX5_quiet_56 rfl 0 rfl ?_
              refine z_get (T := TX5) (v := .ref h4) C i_X5_quiet_5 0 rfl rfl 0 (by decide) m_X5_quiet_1 rfl rfl dX5_quiet_57 ?_
              refine z_iload C dX5_quiet_60 5 rfl ?_
              refine z_cVR (As := [.int x5_32]) C (c_X4_yearAt l D cI cO h4 a1 a2 a3 pn sl dr nw yr x5_32) (cwV 1 C.2.2.2.2.1 gX5_quiet_X4_yearAt rfl rfl rfl hdV_X4_yearAt ⟨Nat.le_of_ble_eq_true rfl, Nat.le_of_ble_eq_true rfl⟩) [1, 2] rfl rfl 1 rfl rfl rfl _ rfl (Nat.le_of_ble_eq_true rfl) ⟨Nat.zero_le _, Nat.zero_le _⟩ dX5_quiet_62 ?_
              generalize hu62 : (F_X4_yearAt pn yr x5_32) = u62 at hf ⊢
              refine z_goto (tgt := 75) C dX5_quiet_65 (by decide) ?_
              refine z_istore C [(0, .ref h5), (1, .int w), (2, .int x2_32), (3, .int x3_32), (4, .int x4_32), (5, .int x5_32), (6, .int u62)] dX5_quiet_75 (by decide) [1, 2, 3, 4, 5, 6, 0] rfl ?_
              refine z_iload C dX5_quiet_77 6 rfl ?_
              refine z_iload C dX5_quiet_79 4 rfl ?_
              refine z_isub C dX5_quiet_81 ?_
              refine z_iload_n C dX5_quiet_82 rfl 2 rfl ?_
              refine z_icmp_le (tgt := 95) C dX5_quiet_83 (by decide) (fun c83 => ?_) (fun c83 => ?_)
              · rw [if_pos c83] at hf
                have b83 := c83
                rw [← hu62] at c83
                refine z_iload C dX5_quiet_95 6 rfl ?_
                refine z_istore C [(0, .ref h5), (1, .int w), (2, .int x2_32), (3, .int x3_32), (4, .int u62), (5, .int x5_32), (6, .int u62)] dX5_quiet_97 (by decide) [1, 2, 3, 4, 0, 5, 6] rfl ?_
                refine z_iinc (v := (x5_32 + (1 : Int32))) C [(0, .ref h5), (1, .int w), (2, .int x2_32), (3, .int x3_32), (4, .int u62), (5, .int (x5_32 + (1 : Int32))), (6, .int u62)] dX5_quiet_99 5 rfl (by rfl) (by decide) [1, 2, 3, 4, 5, 0, 6] rfl ?_
                refine z_goto (tgt := 32) C dX5_quiet_102 (by decide) ?_
                refine z_ls [(0, .ref h5), (1, .int w), (2, .int x2_32), (3, .int x3_32), (4, .int u62), (5, .int (x5_32 + (1 : Int32)))] [0, 1, 2, 3, 4, 5] rfl ?_
                exact ih32 (j + 1) x2_32 x3_32 u62 (x5_32 + (1 : Int32)) (by subst hu62 hu1; exact (by rw [e5]; exact nI_1 j)) (by subst hu62 hu1; exact (by have := z_jle e5 (by omega) (z_tiN hpn (by omega)) c41; omega)) (by omega) hf
              · rw [if_neg c83] at hf
                have b83 := c83
                rw [← hu62] at c83
                refine z_iload C dX5_quiet_86 6 rfl ?_
                refine z_iload C dX5_quiet_88 4 rfl ?_
                refine z_isub C dX5_quiet_90 ?_
                refine z_istore_n C [(0, .ref h5), (1, .int w), (2, .int (u62 - x4_32)), (3, .int x3_32), (4, .int x4_32), (5, .int x5_32), (6, .int u62)] dX5_quiet_91 rfl (by decide) [1, 2, 0, 3, 4, 5, 6] rfl ?_
                refine z_iload C dX5_quiet_92 4 rfl ?_
                refine z_istore_n C [(0, .ref h5), (1, .int w), (2, .int (u62 - x4_32)), (3, .int x4_32), (4, .int x4_32), (5, .int x5_32), (6, .int u62)] dX5_quiet_94 rfl (by decide) [1, 2, 3, 0, 4, 5, 6] rfl ?_
                refine z_iload C dX5_quiet_95 6 rfl ?_
                refine z_istore C [(0, .ref h5), (1, .int w), (2, .int (u62 - x4_32)), (3, .int x4_32), (4, .int u62), (5, .int x5_32), (6, .int u62)] dX5_quiet_97 (by decide) [1, 2, 3, 4, 0, 5, 6] rfl ?_
                refine z_iinc (v := (x5_32 + (1 : Int32))) C [(0, .ref h5), (1, .int w), (2, .int (u62 - x4_32)), (3, .int x4_32), (4, .int u62), (5, .int (x5_32 + (1 : Int32))), (6, .int u62)] dX5_quiet_99 5 rfl (by rfl) (by decide) [1, 2, 3, 4, 5, 0, 6] rfl ?_
                refine z_goto (tgt := 32) C dX5_quiet_102 (by decide) ?_
                refine z_ls [(0, .ref h5), (1, .int w), (2, .int (u62 - x4_32)), (3, .int x4_32), (4, .int u62), (5, .int (x5_32 + (1 : Int32)))] [0, 1, 2, 3, 4, 5] rfl ?_
                exact ih32 (j + 1) (u62 - x4_32) x4_32 u62 (x5_32 + (1 : Int32)) (by subst hu62 hu1; exact (by rw [e5]; exact nI_1 j)) (by subst hu62 hu1; exact (by have := z_jle e5 (by omega) (z_tiN hpn (by omega)) c41; omega)) (by omega) hf
      exact L32 11 0 (-1 : Int32) (0 : Int32) (0 : Int32) (0 : Int32) (by subst hu1; exact nI_0.symm) (by subst hu1; exact (Nat.zero_le _)) (by omega) hf
    refine z_if_eq (tgt := 22) C dX5_quiet_11 (by decide) (fun c11 => ?_) (fun c11 => ?_)
    · rw [if_pos c11] at hf
      exact J22   hf
    · rw [if_neg c11] at hf
      refine z_iload_n C dX5_quiet_14 rfl 1 rfl ?_
      refine z_iconst (v := (1 : Int32)) C dX5_quiet_15 (by decide) ?_
      refine z_icmp_eq (tgt := 22) C dX5_quiet_16 (by decide) (fun c16 => ?_) (fun c16 => ?_)
      · rw [if_pos c16] at hf
        exact J22   hf
      · rw [if_neg c16] at hf
        refine z_bipush (v := (-2 : Int32)) C dX5_quiet_19 (by decide) ?_
        exact z_iretR C hr hlk (by rw [hf]) dX5_quiet_21
  · rw [if_pos c4] at hf
    have b4 := c4
    rw [← hu1] at c4
    refine z_bipush (v := (-3 : Int32)) C dX5_quiet_7 (by decide) ?_
    exact z_iretR C hr hlk (by rw [hf]) dX5_quiet_9
-- X5_run
theorem i_X5_run_5 : ∀ w ∈ u_ws RX5 TX5 7, w ∈ wsX5_run := by decide +kernel
theorem m_X5_run_1 : Cond.fieldLink RX5 12 "WishPins" "lying" "LWishPins$Well;" ∈ wsX5_run := List.mem_of_getElem? (i := 1) rfl
theorem i_X5_run_4 : ∀ w ∈ u_ws RX4 TX4 7, w ∈ wsX5_run := by decide +kernel
theorem m_X5_run_2 : Cond.fieldLink RX5 79 "WishPins$Well" "pins" "I" ∈ wsX5_run := List.mem_of_getElem? (i := 2) rfl
def F_X5_run_k32 (w : Int32) (x2_32 : Int32) (x3_32 : Int32) (x4_32 : Int32) (x5_32 : Int32) : Int32 :=
  (if w = 0 then x2_32 else x3_32)
def F_X5_run_l32 (pn : Int32) (sl : Int32) (dr : Int32) (kd : Nat → Int32) (bd : Nat → Int32) (yr : Nat → Int32) (K_ : Int32 → Int32 → Int32 → Int32 → Int32) : Nat → Int32 → Int32 → Int32 → Int32 → Int32
  | 0, x2_32, x3_32, x4_32, x5_32 => K_ x2_32 x3_32 x4_32 x5_32
  | d32 + 1, x2_32, x3_32, x4_32, x5_32 => (if pn ≤ x5_32 then (K_ x2_32 x3_32 x4_32 x5_32) else (if (F_X4_wishAt pn sl dr kd bd yr x5_32) = (F_X4_wishAt pn sl dr kd bd yr x4_32) then (if ((x5_32 - x4_32) + (1 : Int32)) ≤ x2_32 then (F_X5_run_l32 pn sl dr kd bd yr K_ d32 x2_32 x3_32 x4_32 (x5_32 + (1 : Int32))) else (F_X5_run_l32 pn sl dr kd bd yr K_ d32 ((x5_32 - x4_32) + (1 : Int32)) x4_32 x4_32 (x5_32 + (1 : Int32)))) else (if ((x5_32 - x5_32) + (1 : Int32)) ≤ x2_32 then (F_X5_run_l32 pn sl dr kd bd yr K_ d32 x2_32 x3_32 x5_32 (x5_32 + (1 : Int32))) else (F_X5_run_l32 pn sl dr kd bd yr K_ d32 ((x5_32 - x5_32) + (1 : Int32)) x5_32 x5_32 (x5_32 + (1 : Int32))))))
def F_X5_run_j22 (pn : Int32) (sl : Int32) (dr : Int32) (kd : Nat → Int32) (bd : Nat → Int32) (yr : Nat → Int32) (w : Int32) : Int32 :=
  (F_X5_run_l32 pn sl dr kd bd yr (F_X5_run_k32 w) 10 (0 : Int32) (0 : Int32) (0 : Int32) (0 : Int32))
def F_X5_run (pn : Int32) (sl : Int32) (dr : Int32) (kd : Nat → Int32) (bd : Nat → Int32) (yr : Nat → Int32) (w : Int32) : Int32 :=
  (if (F_X5_hasWell pn) = 0 then (-3 : Int32) else (if w = 0 then (F_X5_run_j22 pn sl dr kd bd yr w) else (if w = (1 : Int32) then (F_X5_run_j22 pn sl dr kd bd yr w) else (-2 : Int32))))
set_option maxHeartbeats 4000000 in
set_option maxRecDepth 100000 in
theorem c_X5_run (l : Launch) (D : va_G) (cI cO : ClassId) (h5 : Nat) (ash : Nat) (tr : Int32) (ft : Int32) (h4 : Nat) (a1 : Nat) (a2 : Nat) (a3 : Nat) (pn : Int32) (sl : Int32) (dr : Int32) (nw : Int32) (kd : Nat → Int32) (bd : Nat → Int32) (yr : Nat → Int32) (h2 : Nat) (h0 : Nat) (h1 : Nat) (w : Int32) (np : Nat) (hpn : pn = nI np) (hnp : np ≤ 9) : zR l yX5_run wsX5_run ({ frames := 2, cells := 0, slots := 0, locals := 44 } : Room) D cI cO [.ref h5, .int w] [(h5, .inr (5, [.ref h4, .ref h2, .ref h0, .ref h1, .ref ash, .int tr, .int ft])), (h4, .inr (4, [.ref a1, .ref a2, .ref a3, .int pn, .int sl, .int dr, .int nw])), (a1, .inl (cI, 9, .inl kd)), (a2, .inl (cI, 9, .inl bd)), (a3, .inl (cI, 9, .inl yr))] (some (.int (F_X5_run pn sl dr kd bd yr w))) := by
  refine zR_of (nL := 6) (cc := cX5_run) (ret := some .int) (lv := [(0, .ref h5), (1, .int w)]) (by decide +kernel) rfl (Nat.le_of_ble_eq_true rfl) rfl (fun p e s m args below meth c C hr hlk => ?_)
  have hf := F_X5_run.eq_1 pn sl dr kd bd yr w
  refine z_aload_n C dX5_run_0 rfl 0 rfl ?_
  refine z_cVR (As := []) C (c_X5_hasWell l D cI cO h5 ash tr ft h4 a1 a2 a3 pn sl dr nw h2 h0 h1) (cwV 0 C.2.2.2.2.1 gX5_run_X5_hasWell rfl rfl rfl hdV_X5_hasWell ⟨Nat.le_of_ble_eq_true rfl, Nat.le_of_ble_eq_true rfl⟩) [0, 1] rfl rfl 0 rfl rfl rfl _ rfl (Nat.le_of_ble_eq_true rfl) ⟨Nat.zero_le _, Nat.zero_le _⟩ dX5_run_1 ?_
  generalize hu1 : (F_X5_hasWell pn) = u1 at hf ⊢
  refine z_if_ne (tgt := 10) C dX5_run_4 (by decide) (fun c4 => ?_) (fun c4 => ?_)
  · rw [if_neg c4] at hf
    have b4 := c4
    rw [← hu1] at c4
    refine z_iload_n C dX5_run_10 rfl 1 rfl ?_
    have J22 : F_X5_run pn sl dr kd bd yr w = F_X5_run_j22 pn sl dr kd bd yr w → zG p l e ({ frames := 2, cells := 0, slots := 0, locals := 44 } : Room) s m args below meth c D (fun _ => True) (zXr s) 6 0 0 (MQ below (zQr (some (.int (F_X5_run pn sl dr kd bd yr w)))) args s 0 0 (fun _ => False)) 22 [(0, .ref h5), (1, .int w)] [] [(h5, .inr (5, [.ref h4, .ref h2, .ref h0, .ref h1, .ref ash, .int tr, .int ft])), (h4, .inr (4, [.ref a1, .ref a2, .ref a3, .int pn, .int sl, .int dr, .int nw])), (a1, .inl (cI, 9, .inl kd)), (a2, .inl (cI, 9, .inl bd)), (a3, .inl (cI, 9, .inl yr))] := by
      intro hf
      rw [F_X5_run_j22] at hf
      skip
      refine z_iconst (v := (0 : Int32)) C dX5_run_22 (by decide) ?_
      refine z_istore_n C [(0, .ref h5), (1, .int w), (2, .int (0 : Int32))] dX5_run_23 rfl (by decide) [1, 2, 0] rfl ?_
      refine z_iconst (v := (0 : Int32)) C dX5_run_24 (by decide) ?_
      refine z_istore_n C [(0, .ref h5), (1, .int w), (2, .int (0 : Int32)), (3, .int (0 : Int32))] dX5_run_25 rfl (by decide) [1, 2, 3, 0] rfl ?_
      refine z_iconst (v := (0 : Int32)) C dX5_run_26 (by decide) ?_
      refine z_istore C [(0, .ref h5), (1, .int w), (2, .int (0 : Int32)), (3, .int (0 : Int32)), (4, .int (0 : Int32))] dX5_run_27 (by decide) [1, 2, 3, 4, 0] rfl ?_
      refine z_iconst (v := (0 : Int32)) C dX5_run_29 (by decide) ?_
      refine z_istore C [(0, .ref h5), (1, .int w), (2, .int (0 : Int32)), (3, .int (0 : Int32)), (4, .int (0 : Int32)), (5, .int (0 : Int32))] dX5_run_30 (by decide) [1, 2, 3, 4, 5, 0] rfl ?_
      have X32 : ∀ (x2_32 : Int32) (x3_32 : Int32) (x4_32 : Int32) (x5_32 : Int32), F_X5_run pn sl dr kd bd yr w = (F_X5_run_k32 w) x2_32 x3_32 x4_32 x5_32 → zG p l e ({ frames := 2, cells := 0, slots := 0, locals := 44 } : Room) s m args below meth c D (fun _ => True) (zXr s) 6 0 0 (MQ below (zQr (some (.int (F_X5_run pn sl dr kd bd yr w)))) args s 0 0 (fun _ => False)) 97 [(0, .ref h5), (1, .int w), (2, .int x2_32), (3, .int x3_32), (4, .int x4_32), (5, .int x5_32)] [] [(h5, .inr (5, [.ref h4, .ref h2, .ref h0, .ref h1, .ref ash, .int tr, .int ft])), (h4, .inr (4, [.ref a1, .ref a2, .ref a3, .int pn, .int sl, .int dr, .int nw])), (a1, .inl (cI, 9, .inl kd)), (a2, .inl (cI, 9, .inl bd)), (a3, .inl (cI, 9, .inl yr))] := by
        intro x2_32 x3_32 x4_32 x5_32 hf
        rw [F_X5_run_k32] at hf
        skip
        refine z_iload_n C dX5_run_97 rfl 1 rfl ?_
        refine z_if_ne (tgt := 105) C dX5_run_98 (by decide) (fun c98 => ?_) (fun c98 => ?_)
        · rw [if_neg c98] at hf
          refine z_iload_n C dX5_run_105 rfl 3 rfl ?_
          exact z_iretR C hr hlk (by rw [hf]) dX5_run_106
        · rw [if_pos c98] at hf
          refine z_iload_n C dX5_run_101 rfl 2 rfl ?_
          refine z_goto (tgt := 106) C dX5_run_102 (by decide) ?_
          exact z_iretR C hr hlk (by rw [hf]) dX5_run_106
      have L32 : ∀ (d32 : Nat) (j : Nat) (x2_32 : Int32) (x3_32 : Int32) (x4_32 : Int32) (x5_32 : Int32) (e5 : x5_32 = nI j) (hj : j ≤ np) (hd : np < j + d32), F_X5_run pn sl dr kd bd yr w = F_X5_run_l32 pn sl dr kd bd yr (F_X5_run_k32 w) d32 x2_32 x3_32 x4_32 x5_32 → zG p l e ({ frames := 2, cells := 0, slots := 0, locals := 44 } : Room) s m args below meth c D (fun _ => True) (zXr s) 6 0 0 (MQ below (zQr (some (.int (F_X5_run pn sl dr kd bd yr w)))) args s 0 0 (fun _ => False)) 32 [(0, .ref h5), (1, .int w), (2, .int x2_32), (3, .int x3_32), (4, .int x4_32), (5, .int x5_32)] [] [(h5, .inr (5, [.ref h4, .ref h2, .ref h0, .ref h1, .ref ash, .int tr, .int ft])), (h4, .inr (4, [.ref a1, .ref a2, .ref a3, .int pn, .int sl, .int dr, .int nw])), (a1, .inl (cI, 9, .inl kd)), (a2, .inl (cI, 9, .inl bd)), (a3, .inl (cI, 9, .inl yr))] := by
        intro d32
        induction d32 with
        | zero =>
          intro j x2_32 x3_32 x4_32 x5_32 e5 hj hd hf
          exfalso; omega
        | succ d32 ih32 =>
          intro j x2_32 x3_32 x4_32 x5_32 e5 hj hd hf
          rw [F_X5_run_l32] at hf
          skip
          refine z_iload C dX5_run_32 5 rfl ?_
          refine z_aload_n C dX5_run_34 rfl 0 rfl ?_
          refine z_get (T := TX5) (v := .ref h4) C i_X5_run_5 0 rfl rfl 0 (by decide) m_X5_run_1 rfl rfl dX5_run_35 ?_
          refine z_get (T := TX4) (v := .int pn) C i_X5_run_4 1 rfl rfl 3 (by decide) m_X5_run_2 rfl rfl dX5_run_38 ?_
          refine z_icmp_ge (tgt := 97) C dX5_run_41 (by decide) (fun c41 => ?_) (fun c41 => ?_)
          · rw [if_pos c41] at hf
            exact X32 x2_32 x3_32 x4_32 x5_32  hf
          · rw [if_neg c41] at hf
            refine z_aload_n C dX5_run_44 rfl 0 rfl ?_
            refine z_get (T := TX5) (v := .ref h4) C i_X5_run_5 0 rfl rfl 0 (by decide) m_X5_run_1 rfl rfl dX5_run_45 ?_
            refine z_iload C dX5_run_48 5 rfl ?_
            refine z_cVR (As := [.int x5_32]) C (c_X4_wishAt l D cI cO h4 a1 a2 a3 pn sl dr nw kd bd yr x5_32) (cwV 1 C.2.2.2.2.1 gX5_run_X4_wishAt rfl rfl rfl hdV_X4_wishAt ⟨Nat.le_of_ble_eq_true rfl, Nat.le_of_ble_eq_true rfl⟩) [1, 2, 3, 4] rfl rfl 1 rfl rfl rfl _ rfl (Nat.le_of_ble_eq_true rfl) ⟨Nat.zero_le _, Nat.zero_le _⟩ dX5_run_50 ?_
            generalize hu50 : (F_X4_wishAt pn sl dr kd bd yr x5_32) = u50 at hf ⊢
            refine z_aload_n C dX5_run_53 rfl 0 rfl ?_
            refine z_get (T := TX5) (v := .ref h4) C i_X5_run_5 0 rfl rfl 0 (by decide) m_X5_run_1 rfl rfl dX5_run_54 ?_
            refine z_iload C dX5_run_57 4 rfl ?_
            refine z_cVR (As := [.int x4_32]) C (c_X4_wishAt l D cI cO h4 a1 a2 a3 pn sl dr nw kd bd yr x4_32) (cwV 1 C.2.2.2.2.1 gX5_run_X4_wishAt rfl rfl rfl hdV_X4_wishAt ⟨Nat.le_of_ble_eq_true rfl, Nat.le_of_ble_eq_true rfl⟩) [1, 2, 3, 4] rfl rfl 1 rfl rfl rfl _ rfl (Nat.le_of_ble_eq_true rfl) ⟨Nat.zero_le _, Nat.zero_le _⟩ dX5_run_59 ?_
            generalize hu59 : (F_X4_wishAt pn sl dr kd bd yr x4_32) = u59 at hf ⊢
            refine z_icmp_eq (tgt := 69) C dX5_run_62 (by decide) (fun c62 => ?_) (fun c62 => ?_)
            · rw [if_pos c62] at hf
              have b62 := c62
              rw [← hu59, ← hu50] at c62
              refine z_iload C dX5_run_69 5 rfl ?_
              refine z_iload C dX5_run_71 4 rfl ?_
              refine z_isub C dX5_run_73 ?_
              refine z_iconst (v := (1 : Int32)) C dX5_run_74 (by decide) ?_
              refine z_iadd C dX5_run_75 ?_
              refine z_iload_n C dX5_run_76 rfl 2 rfl ?_
              refine z_icmp_le (tgt := 91) C dX5_run_77 (by decide) (fun c77 => ?_) (fun c77 => ?_)
              · rw [if_pos c77] at hf
                refine z_iinc (v := (x5_32 + (1 : Int32))) C [(0, .ref h5), (1, .int w), (2, .int x2_32), (3, .int x3_32), (4, .int x4_32), (5, .int (x5_32 + (1 : Int32)))] dX5_run_91 5 rfl (by rfl) (by decide) [1, 2, 3, 4, 5, 0] rfl ?_
                refine z_goto (tgt := 32) C dX5_run_94 (by decide) ?_
                exact ih32 (j + 1) x2_32 x3_32 x4_32 (x5_32 + (1 : Int32)) (by subst hu59 hu50 hu1; exact (by rw [e5]; exact nI_1 j)) (by subst hu59 hu50 hu1; exact (by have := z_jlt e5 (by omega) (z_tiN hpn (by omega)) c41; omega)) (by omega) hf
              · rw [if_neg c77] at hf
                refine z_iload C dX5_run_80 5 rfl ?_
                refine z_iload C dX5_run_82 4 rfl ?_
                refine z_isub C dX5_run_84 ?_
                refine z_iconst (v := (1 : Int32)) C dX5_run_85 (by decide) ?_
                refine z_iadd C dX5_run_86 ?_
                refine z_istore_n C [(0, .ref h5), (1, .int w), (2, .int ((x5_32 - x4_32) + (1 : Int32))), (3, .int x3_32), (4, .int x4_32), (5, .int x5_32)] dX5_run_87 rfl (by decide) [1, 2, 0, 3, 4, 5] rfl ?_
                refine z_iload C dX5_run_88 4 rfl ?_
                refine z_istore_n C [(0, .ref h5), (1, .int w), (2, .int ((x5_32 - x4_32) + (1 : Int32))), (3, .int x4_32), (4, .int x4_32), (5, .int x5_32)] dX5_run_90 rfl (by decide) [1, 2, 3, 0, 4, 5] rfl ?_
                refine z_iinc (v := (x5_32 + (1 : Int32))) C [(0, .ref h5), (1, .int w), (2, .int ((x5_32 - x4_32) + (1 : Int32))), (3, .int x4_32), (4, .int x4_32), (5, .int (x5_32 + (1 : Int32)))] dX5_run_91 5 rfl (by rfl) (by decide) [1, 2, 3, 4, 5, 0] rfl ?_
                refine z_goto (tgt := 32) C dX5_run_94 (by decide) ?_
                exact ih32 (j + 1) ((x5_32 - x4_32) + (1 : Int32)) x4_32 x4_32 (x5_32 + (1 : Int32)) (by subst hu59 hu50 hu1; exact (by rw [e5]; exact nI_1 j)) (by subst hu59 hu50 hu1; exact (by have := z_jlt e5 (by omega) (z_tiN hpn (by omega)) c41; omega)) (by omega) hf
            · rw [if_neg c62] at hf
              have b62 := c62
              rw [← hu59, ← hu50] at c62
              refine z_iload C dX5_run_65 5 rfl ?_
              refine z_istore C [(0, .ref h5), (1, .int w), (2, .int x2_32), (3, .int x3_32), (4, .int x5_32), (5, .int x5_32)] dX5_run_67 (by decide) [1, 2, 3, 4, 0, 5] rfl ?_
              refine z_iload C dX5_run_69 5 rfl ?_
              refine z_iload C dX5_run_71 4 rfl ?_
              refine z_isub C dX5_run_73 ?_
              refine z_iconst (v := (1 : Int32)) C dX5_run_74 (by decide) ?_
              refine z_iadd C dX5_run_75 ?_
              refine z_iload_n C dX5_run_76 rfl 2 rfl ?_
              refine z_icmp_le (tgt := 91) C dX5_run_77 (by decide) (fun c77 => ?_) (fun c77 => ?_)
              · rw [if_pos c77] at hf
                refine z_iinc (v := (x5_32 + (1 : Int32))) C [(0, .ref h5), (1, .int w), (2, .int x2_32), (3, .int x3_32), (4, .int x5_32), (5, .int (x5_32 + (1 : Int32)))] dX5_run_91 5 rfl (by rfl) (by decide) [1, 2, 3, 4, 5, 0] rfl ?_
                refine z_goto (tgt := 32) C dX5_run_94 (by decide) ?_
                exact ih32 (j + 1) x2_32 x3_32 x5_32 (x5_32 + (1 : Int32)) (by subst hu59 hu50 hu1; exact (by rw [e5]; exact nI_1 j)) (by subst hu59 hu50 hu1; exact (by have := z_jlt e5 (by omega) (z_tiN hpn (by omega)) c41; omega)) (by omega) hf
              · rw [if_neg c77] at hf
                refine z_iload C dX5_run_80 5 rfl ?_
                refine z_iload C dX5_run_82 4 rfl ?_
                refine z_isub C dX5_run_84 ?_
                refine z_iconst (v := (1 : Int32)) C dX5_run_85 (by decide) ?_
                refine z_iadd C dX5_run_86 ?_
                refine z_istore_n C [(0, .ref h5), (1, .int w), (2, .int ((x5_32 - x5_32) + (1 : Int32))), (3, .int x3_32), (4, .int x5_32), (5, .int x5_32)] dX5_run_87 rfl (by decide) [1, 2, 0, 3, 4, 5] rfl ?_
                refine z_iload C dX5_run_88 4 rfl ?_
                refine z_istore_n C [(0, .ref h5), (1, .int w), (2, .int ((x5_32 - x5_32) + (1 : Int32))), (3, .int x5_32), (4, .int x5_32), (5, .int x5_32)] dX5_run_90 rfl (by decide) [1, 2, 3, 0, 4, 5] rfl ?_
                refine z_iinc (v := (x5_32 + (1 : Int32))) C [(0, .ref h5), (1, .int w), (2, .int ((x5_32 - x5_32) + (1 : Int32))), (3, .int x5_32), (4, .int x5_32), (5, .int (x5_32 + (1 : Int32)))] dX5_run_91 5 rfl (by rfl) (by decide) [1, 2, 3, 4, 5, 0] rfl ?_
                refine z_goto (tgt := 32) C dX5_run_94 (by decide) ?_
                exact ih32 (j + 1) ((x5_32 - x5_32) + (1 : Int32)) x5_32 x5_32 (x5_32 + (1 : Int32)) (by subst hu59 hu50 hu1; exact (by rw [e5]; exact nI_1 j)) (by subst hu59 hu50 hu1; exact (by have := z_jlt e5 (by omega) (z_tiN hpn (by omega)) c41; omega)) (by omega) hf
      exact L32 10 0 (0 : Int32) (0 : Int32) (0 : Int32) (0 : Int32) (by subst hu1; exact nI_0.symm) (by subst hu1; exact (Nat.zero_le _)) (by omega) hf
    refine z_if_eq (tgt := 22) C dX5_run_11 (by decide) (fun c11 => ?_) (fun c11 => ?_)
    · rw [if_pos c11] at hf
      exact J22   hf
    · rw [if_neg c11] at hf
      refine z_iload_n C dX5_run_14 rfl 1 rfl ?_
      refine z_iconst (v := (1 : Int32)) C dX5_run_15 (by decide) ?_
      refine z_icmp_eq (tgt := 22) C dX5_run_16 (by decide) (fun c16 => ?_) (fun c16 => ?_)
      · rw [if_pos c16] at hf
        exact J22   hf
      · rw [if_neg c16] at hf
        refine z_bipush (v := (-2 : Int32)) C dX5_run_19 (by decide) ?_
        exact z_iretR C hr hlk (by rw [hf]) dX5_run_21
  · rw [if_pos c4] at hf
    have b4 := c4
    rw [← hu1] at c4
    refine z_bipush (v := (-3 : Int32)) C dX5_run_7 (by decide) ?_
    exact z_iretR C hr hlk (by rw [hf]) dX5_run_9
-- X5_shape
theorem i_X5_shape_5 : ∀ w ∈ u_ws RX5 TX5 7, w ∈ wsX5_shape := by decide +kernel
theorem m_X5_shape_1 : Cond.fieldLink RX5 12 "WishPins" "lying" "LWishPins$Well;" ∈ wsX5_shape := List.mem_of_getElem? (i := 1) rfl
def F_X5_shape_k29 (x3_29 : Int32) : Int32 :=
  (-9 : Int32)
def F_X5_shape_l29 (sl : Int32) (dr : Int32) (nw : Int32) (k : Int32) (v : Int32) (K_ : Int32 → Int32) : Nat → Int32 → Int32
  | 0, x3_29 => K_ x3_29
  | d29 + 1, x3_29 => (if (10 : Int32) ≤ x3_29 then (K_ x3_29) else (if (F_X4_wishNow sl dr nw k x3_29) = v then x3_29 else (F_X5_shape_l29 sl dr nw k v K_ d29 (x3_29 + (1 : Int32)))))
def F_X5_shape (pn : Int32) (sl : Int32) (dr : Int32) (nw : Int32) (k : Int32) (v : Int32) : Int32 :=
  (if (F_X5_hasWell pn) = 0 then (-3 : Int32) else (if (F_X5_isKind k) = 0 then (-2 : Int32) else (if (F_X5_isWish v) = 0 then (-2 : Int32) else (F_X5_shape_l29 sl dr nw k v F_X5_shape_k29 11 (0 : Int32)))))
set_option maxHeartbeats 4000000 in
set_option maxRecDepth 100000 in
theorem c_X5_shape (l : Launch) (D : va_G) (cI cO : ClassId) (h5 : Nat) (ash : Nat) (tr : Int32) (ft : Int32) (h4 : Nat) (a1 : Nat) (a2 : Nat) (a3 : Nat) (pn : Int32) (sl : Int32) (dr : Int32) (nw : Int32) (h2 : Nat) (h0 : Nat) (h1 : Nat) (k : Int32) (v : Int32) : zR l yX5_shape wsX5_shape ({ frames := 2, cells := 0, slots := 0, locals := 45 } : Room) D cI cO [.ref h5, .int k, .int v] [(h5, .inr (5, [.ref h4, .ref h2, .ref h0, .ref h1, .ref ash, .int tr, .int ft])), (h4, .inr (4, [.ref a1, .ref a2, .ref a3, .int pn, .int sl, .int dr, .int nw]))] (some (.int (F_X5_shape pn sl dr nw k v))) := by
  refine zR_of (nL := 4) (cc := cX5_shape) (ret := some .int) (lv := [(0, .ref h5), (1, .int k), (2, .int v)]) (by decide +kernel) rfl (Nat.le_of_ble_eq_true rfl) rfl (fun p e s m args below meth c C hr hlk => ?_)
  have hf := F_X5_shape.eq_1 pn sl dr nw k v
  refine z_aload_n C dX5_shape_0 rfl 0 rfl ?_
  refine z_cVR (As := []) C (c_X5_hasWell l D cI cO h5 ash tr ft h4 a1 a2 a3 pn sl dr nw h2 h0 h1) (cwV 0 C.2.2.2.2.1 gX5_shape_X5_hasWell rfl rfl rfl hdV_X5_hasWell ⟨Nat.le_of_ble_eq_true rfl, Nat.le_of_ble_eq_true rfl⟩) [0, 1] rfl rfl 0 rfl rfl rfl _ rfl (Nat.le_of_ble_eq_true rfl) ⟨Nat.zero_le _, Nat.zero_le _⟩ dX5_shape_1 ?_
  generalize hu1 : (F_X5_hasWell pn) = u1 at hf ⊢
  refine z_if_ne (tgt := 10) C dX5_shape_4 (by decide) (fun c4 => ?_) (fun c4 => ?_)
  · rw [if_neg c4] at hf
    have b4 := c4
    rw [← hu1] at c4
    refine z_iload_n C dX5_shape_10 rfl 1 rfl ?_
    refine z_cSR (As := [.int k]) C (c_X5_isKind l D cI cO k) (va_cwS 1 C.2.2.2.2.1 gX5_shape_X5_isKind rfl rfl rfl hdS_X5_isKind ⟨Nat.le_of_ble_eq_true rfl, Nat.le_of_ble_eq_true rfl⟩) [] rfl rfl rfl _ rfl (Nat.le_of_ble_eq_true rfl) ⟨Nat.zero_le _, Nat.zero_le _⟩ dX5_shape_11 ?_
    generalize hu11 : (F_X5_isKind k) = u11 at hf ⊢
    refine z_if_eq (tgt := 24) C dX5_shape_14 (by decide) (fun c14 => ?_) (fun c14 => ?_)
    · rw [if_pos c14] at hf
      have b14 := c14
      rw [← hu11] at c14
      refine z_bipush (v := (-2 : Int32)) C dX5_shape_24 (by decide) ?_
      exact z_iretR C hr hlk (by rw [hf]) dX5_shape_26
    · rw [if_neg c14] at hf
      have b14 := c14
      rw [← hu11] at c14
      refine z_iload_n C dX5_shape_17 rfl 2 rfl ?_
      refine z_cSR (As := [.int v]) C (c_X5_isWish l D cI cO v) (va_cwS 1 C.2.2.2.2.1 gX5_shape_X5_isWish rfl rfl rfl hdS_X5_isWish ⟨Nat.le_of_ble_eq_true rfl, Nat.le_of_ble_eq_true rfl⟩) [] rfl rfl rfl _ rfl (Nat.le_of_ble_eq_true rfl) ⟨Nat.zero_le _, Nat.zero_le _⟩ dX5_shape_18 ?_
      generalize hu18 : (F_X5_isWish v) = u18 at hf ⊢
      refine z_if_ne (tgt := 27) C dX5_shape_21 (by decide) (fun c21 => ?_) (fun c21 => ?_)
      · rw [if_neg c21] at hf
        have b21 := c21
        rw [← hu18] at c21
        refine z_iconst (v := (0 : Int32)) C dX5_shape_27 (by decide) ?_
        refine z_istore_n C [(0, .ref h5), (1, .int k), (2, .int v), (3, .int (0 : Int32))] dX5_shape_28 rfl (by decide) [1, 2, 3, 0] rfl ?_
        have X29 : ∀ (x3_29 : Int32), F_X5_shape pn sl dr nw k v = F_X5_shape_k29 x3_29 → zG p l e ({ frames := 2, cells := 0, slots := 0, locals := 45 } : Room) s m args below meth c D (fun _ => True) (zXr s) 4 0 0 (MQ below (zQr (some (.int (F_X5_shape pn sl dr nw k v)))) args s 0 0 (fun _ => False)) 56 [(0, .ref h5), (1, .int k), (2, .int v), (3, .int x3_29)] [] [(h5, .inr (5, [.ref h4, .ref h2, .ref h0, .ref h1, .ref ash, .int tr, .int ft])), (h4, .inr (4, [.ref a1, .ref a2, .ref a3, .int pn, .int sl, .int dr, .int nw]))] := by
          intro x3_29 hf
          rw [F_X5_shape_k29] at hf
          skip
          refine z_bipush (v := (-9 : Int32)) C dX5_shape_56 (by decide) ?_
          exact z_iretR C hr hlk (by rw [hf]) dX5_shape_58
        have L29 : ∀ (d29 : Nat) (j : Nat) (x3_29 : Int32) (e3 : x3_29 = nI j) (hj : j ≤ 10) (hd : 10 < j + d29), F_X5_shape pn sl dr nw k v = F_X5_shape_l29 sl dr nw k v F_X5_shape_k29 d29 x3_29 → zG p l e ({ frames := 2, cells := 0, slots := 0, locals := 45 } : Room) s m args below meth c D (fun _ => True) (zXr s) 4 0 0 (MQ below (zQr (some (.int (F_X5_shape pn sl dr nw k v)))) args s 0 0 (fun _ => False)) 29 [(0, .ref h5), (1, .int k), (2, .int v), (3, .int x3_29)] [] [(h5, .inr (5, [.ref h4, .ref h2, .ref h0, .ref h1, .ref ash, .int tr, .int ft])), (h4, .inr (4, [.ref a1, .ref a2, .ref a3, .int pn, .int sl, .int dr, .int nw]))] := by
          intro d29
          induction d29 with
          | zero =>
            intro j x3_29 e3 hj hd hf
            exfalso; omega
          | succ d29 ih29 =>
            intro j x3_29 e3 hj hd hf
            rw [F_X5_shape_l29] at hf
            skip
            refine z_iload_n C dX5_shape_29 rfl 3 rfl ?_
            refine z_bipush (v := (10 : Int32)) C dX5_shape_30 (by decide) ?_
            refine z_icmp_ge (tgt := 56) C dX5_shape_32 (by decide) (fun c32 => ?_) (fun c32 => ?_)
            · rw [if_pos c32] at hf
              exact X29 x3_29  hf
            · rw [if_neg c32] at hf
              refine z_aload_n C dX5_shape_35 rfl 0 rfl ?_
              refine z_get (T := TX5) (v := .ref h4) C i_X5_shape_5 0 rfl rfl 0 (by decide) m_X5_shape_1 rfl rfl dX5_shape_36 ?_
              refine z_iload_n C dX5_shape_39 rfl 1 rfl ?_
              refine z_iload_n C dX5_shape_40 rfl 3 rfl ?_
              refine z_cVR (As := [.int k, .int x3_29]) C (c_X4_wishNow l D cI cO h4 a1 a2 a3 pn sl dr nw k x3_29) (cwV 2 C.2.2.2.2.1 gX5_shape_X4_wishNow rfl rfl rfl hdV_X4_wishNow ⟨Nat.le_of_ble_eq_true rfl, Nat.le_of_ble_eq_true rfl⟩) [1] rfl rfl 1 rfl rfl rfl _ rfl (Nat.le_of_ble_eq_true rfl) ⟨Nat.zero_le _, Nat.zero_le _⟩ dX5_shape_41 ?_
              generalize hu41 : (F_X4_wishNow sl dr nw k x3_29) = u41 at hf ⊢
              refine z_iload_n C dX5_shape_44 rfl 2 rfl ?_
              refine z_icmp_ne (tgt := 50) C dX5_shape_45 (by decide) (fun c45 => ?_) (fun c45 => ?_)
              · rw [if_neg c45] at hf
                have b45 := c45
                rw [← hu41] at c45
                refine z_iinc (v := (x3_29 + (1 : Int32))) C [(0, .ref h5), (1, .int k), (2, .int v), (3, .int (x3_29 + (1 : Int32)))] dX5_shape_50 3 rfl (by rfl) (by decide) [1, 2, 3, 0] rfl ?_
                refine z_goto (tgt := 29) C dX5_shape_53 (by decide) ?_
                exact ih29 (j + 1) (x3_29 + (1 : Int32)) (by subst hu41 hu18 hu11 hu1; exact (by rw [e3]; exact nI_1 j)) (by subst hu41 hu18 hu11 hu1; exact (by have := z_jlt (n := 10) e3 (by omega) (by decide) c32; omega)) (by omega) hf
              · rw [if_pos c45] at hf
                have b45 := c45
                rw [← hu41] at c45
                refine z_iload_n C dX5_shape_48 rfl 3 rfl ?_
                exact z_iretR C hr hlk (by rw [hf]) dX5_shape_49
        exact L29 11 0 (0 : Int32) (by subst hu18 hu11 hu1; exact nI_0.symm) (by subst hu18 hu11 hu1; exact (Nat.zero_le _)) (by omega) hf
      · rw [if_pos c21] at hf
        have b21 := c21
        rw [← hu18] at c21
        refine z_bipush (v := (-2 : Int32)) C dX5_shape_24 (by decide) ?_
        exact z_iretR C hr hlk (by rw [hf]) dX5_shape_26
  · rw [if_pos c4] at hf
    have b4 := c4
    rw [← hu1] at c4
    refine z_bipush (v := (-3 : Int32)) C dX5_shape_7 (by decide) ?_
    exact z_iretR C hr hlk (by rw [hf]) dX5_shape_9
-- X5_bends
theorem i_X5_bends_5 : ∀ w ∈ u_ws RX5 TX5 7, w ∈ wsX5_bends := by decide +kernel
theorem m_X5_bends_1 : Cond.fieldLink RX5 12 "WishPins" "lying" "LWishPins$Well;" ∈ wsX5_bends := List.mem_of_getElem? (i := 1) rfl
theorem m_X5_bends_2 : Cond.fieldLink RX5 21 "WishPins" "readings" "LWishPins$Readings;" ∈ wsX5_bends := List.mem_of_getElem? (i := 2) rfl
def F_X5_bends_k17 (x2_17 : Int32) (x3_17 : Int32) : Int32 :=
  x2_17
def F_X5_bends_l17 (pn : Int32) (sl : Int32) (dr : Int32) (kd : Nat → Int32) (bd : Nat → Int32) (yr : Nat → Int32) (rc : Int32) (rp : Nat → Int32) (rw : Nat → Int32) (k : Int32) (K_ : Int32 → Int32 → Int32) : Nat → Int32 → Int32 → Int32
  | 0, x2_17, x3_17 => K_ x2_17 x3_17
  | d17 + 1, x2_17, x3_17 => (if (10 : Int32) ≤ x3_17 then (K_ x2_17 x3_17) else (if (F_X2_areSoWith rc rp rw pn sl dr kd bd yr k (F_X5_turnOf (F_X4_kindAt pn kd k) x3_17)) = 0 then (F_X5_bends_l17 pn sl dr kd bd yr rc rp rw k K_ d17 x2_17 (x3_17 + (1 : Int32))) else (F_X5_bends_l17 pn sl dr kd bd yr rc rp rw k K_ d17 (x2_17 ||| ((1 : Int32) <<< (x3_17 &&& 31))) (x3_17 + (1 : Int32)))))
def F_X5_bends (pn : Int32) (sl : Int32) (dr : Int32) (kd : Nat → Int32) (bd : Nat → Int32) (yr : Nat → Int32) (rc : Int32) (rp : Nat → Int32) (rw : Nat → Int32) (k : Int32) : Int32 :=
  (if (F_X4_isPin pn k) = 0 then (-1 : Int32) else (F_X5_bends_l17 pn sl dr kd bd yr rc rp rw k F_X5_bends_k17 11 (0 : Int32) (0 : Int32)))
set_option maxHeartbeats 4000000 in
set_option maxRecDepth 100000 in
theorem c_X5_bends (l : Launch) (D : va_G) (cI cO : ClassId) (h5 : Nat) (ash : Nat) (tr : Int32) (ft : Int32) (h4 : Nat) (a1 : Nat) (a2 : Nat) (a3 : Nat) (pn : Int32) (sl : Int32) (dr : Int32) (nw : Int32) (kd : Nat → Int32) (bd : Nat → Int32) (yr : Nat → Int32) (h2 : Nat) (e1 : Nat) (e2 : Nat) (rc : Int32) (rp : Nat → Int32) (rw : Nat → Int32) (h0 : Nat) (h1 : Nat) (k : Int32) : zR l yX5_bends wsX5_bends ({ frames := 3, cells := 0, slots := 0, locals := 68 } : Room) D cI cO [.ref h5, .int k] [(h5, .inr (5, [.ref h4, .ref h2, .ref h0, .ref h1, .ref ash, .int tr, .int ft])), (h4, .inr (4, [.ref a1, .ref a2, .ref a3, .int pn, .int sl, .int dr, .int nw])), (a1, .inl (cI, 9, .inl kd)), (a2, .inl (cI, 9, .inl bd)), (a3, .inl (cI, 9, .inl yr)), (h2, .inr (2, [.ref e1, .ref e2, .int rc])), (e1, .inl (cI, 8, .inl rp)), (e2, .inl (cI, 8, .inl rw))] (some (.int (F_X5_bends pn sl dr kd bd yr rc rp rw k))) := by
  refine zR_of (nL := 4) (cc := cX5_bends) (ret := some .int) (lv := [(0, .ref h5), (1, .int k)]) (by decide +kernel) rfl (Nat.le_of_ble_eq_true rfl) rfl (fun p e s m args below meth c C hr hlk => ?_)
  have hf := F_X5_bends.eq_1 pn sl dr kd bd yr rc rp rw k
  refine z_aload_n C dX5_bends_0 rfl 0 rfl ?_
  refine z_get (T := TX5) (v := .ref h4) C i_X5_bends_5 0 rfl rfl 0 (by decide) m_X5_bends_1 rfl rfl dX5_bends_1 ?_
  refine z_iload_n C dX5_bends_4 rfl 1 rfl ?_
  refine z_cVR (As := [.int k]) C (c_X4_isPin l D cI cO h4 a1 a2 a3 pn sl dr nw k) (cwV 1 C.2.2.2.2.1 gX5_bends_X4_isPin rfl rfl rfl hdV_X4_isPin ⟨Nat.le_of_ble_eq_true rfl, Nat.le_of_ble_eq_true rfl⟩) [1] rfl rfl 1 rfl rfl rfl _ rfl (Nat.le_of_ble_eq_true rfl) ⟨Nat.zero_le _, Nat.zero_le _⟩ dX5_bends_5 ?_
  generalize hu5 : (F_X4_isPin pn k) = u5 at hf ⊢
  refine z_if_ne (tgt := 13) C dX5_bends_8 (by decide) (fun c8 => ?_) (fun c8 => ?_)
  · rw [if_neg c8] at hf
    have b8 := c8
    rw [← hu5] at c8
    refine z_iconst (v := (0 : Int32)) C dX5_bends_13 (by decide) ?_
    refine z_istore_n C [(0, .ref h5), (1, .int k), (2, .int (0 : Int32))] dX5_bends_14 rfl (by decide) [1, 2, 0] rfl ?_
    refine z_iconst (v := (0 : Int32)) C dX5_bends_15 (by decide) ?_
    refine z_istore_n C [(0, .ref h5), (1, .int k), (2, .int (0 : Int32)), (3, .int (0 : Int32))] dX5_bends_16 rfl (by decide) [1, 2, 3, 0] rfl ?_
    have X17 : ∀ (x2_17 : Int32) (x3_17 : Int32), F_X5_bends pn sl dr kd bd yr rc rp rw k = F_X5_bends_k17 x2_17 x3_17 → zG p l e ({ frames := 3, cells := 0, slots := 0, locals := 68 } : Room) s m args below meth c D (fun _ => True) (zXr s) 4 0 0 (MQ below (zQr (some (.int (F_X5_bends pn sl dr kd bd yr rc rp rw k)))) args s 0 0 (fun _ => False)) 62 [(0, .ref h5), (1, .int k), (2, .int x2_17), (3, .int x3_17)] [] [(h5, .inr (5, [.ref h4, .ref h2, .ref h0, .ref h1, .ref ash, .int tr, .int ft])), (h4, .inr (4, [.ref a1, .ref a2, .ref a3, .int pn, .int sl, .int dr, .int nw])), (a1, .inl (cI, 9, .inl kd)), (a2, .inl (cI, 9, .inl bd)), (a3, .inl (cI, 9, .inl yr)), (h2, .inr (2, [.ref e1, .ref e2, .int rc])), (e1, .inl (cI, 8, .inl rp)), (e2, .inl (cI, 8, .inl rw))] := by
      intro x2_17 x3_17 hf
      rw [F_X5_bends_k17] at hf
      skip
      refine z_iload_n C dX5_bends_62 rfl 2 rfl ?_
      exact z_iretR C hr hlk (by rw [hf]) dX5_bends_63
    have L17 : ∀ (d17 : Nat) (j : Nat) (x2_17 : Int32) (x3_17 : Int32) (e3 : x3_17 = nI j) (hj : j ≤ 10) (hd : 10 < j + d17), F_X5_bends pn sl dr kd bd yr rc rp rw k = F_X5_bends_l17 pn sl dr kd bd yr rc rp rw k F_X5_bends_k17 d17 x2_17 x3_17 → zG p l e ({ frames := 3, cells := 0, slots := 0, locals := 68 } : Room) s m args below meth c D (fun _ => True) (zXr s) 4 0 0 (MQ below (zQr (some (.int (F_X5_bends pn sl dr kd bd yr rc rp rw k)))) args s 0 0 (fun _ => False)) 17 [(0, .ref h5), (1, .int k), (2, .int x2_17), (3, .int x3_17)] [] [(h5, .inr (5, [.ref h4, .ref h2, .ref h0, .ref h1, .ref ash, .int tr, .int ft])), (h4, .inr (4, [.ref a1, .ref a2, .ref a3, .int pn, .int sl, .int dr, .int nw])), (a1, .inl (cI, 9, .inl kd)), (a2, .inl (cI, 9, .inl bd)), (a3, .inl (cI, 9, .inl yr)), (h2, .inr (2, [.ref e1, .ref e2, .int rc])), (e1, .inl (cI, 8, .inl rp)), (e2, .inl (cI, 8, .inl rw))] := by
      intro d17
      induction d17 with
      | zero =>
        intro j x2_17 x3_17 e3 hj hd hf
        exfalso; omega
      | succ d17 ih17 =>
        intro j x2_17 x3_17 e3 hj hd hf
        rw [F_X5_bends_l17] at hf
        skip
        refine z_iload_n C dX5_bends_17 rfl 3 rfl ?_
        refine z_bipush (v := (10 : Int32)) C dX5_bends_18 (by decide) ?_
        refine z_icmp_ge (tgt := 62) C dX5_bends_20 (by decide) (fun c20 => ?_) (fun c20 => ?_)
        · rw [if_pos c20] at hf
          exact X17 x2_17 x3_17  hf
        · rw [if_neg c20] at hf
          refine z_aload_n C dX5_bends_23 rfl 0 rfl ?_
          refine z_get (T := TX5) (v := .ref h2) C i_X5_bends_5 0 rfl rfl 1 (by decide) m_X5_bends_2 rfl rfl dX5_bends_24 ?_
          refine z_aload_n C dX5_bends_27 rfl 0 rfl ?_
          refine z_get (T := TX5) (v := .ref h4) C i_X5_bends_5 0 rfl rfl 0 (by decide) m_X5_bends_1 rfl rfl dX5_bends_28 ?_
          refine z_iload_n C dX5_bends_31 rfl 1 rfl ?_
          refine z_aload_n C dX5_bends_32 rfl 0 rfl ?_
          refine z_get (T := TX5) (v := .ref h4) C i_X5_bends_5 0 rfl rfl 0 (by decide) m_X5_bends_1 rfl rfl dX5_bends_33 ?_
          refine z_iload_n C dX5_bends_36 rfl 1 rfl ?_
          refine z_cVR (As := [.int k]) C (c_X4_kindAt l D cI cO h4 a1 a2 a3 pn sl dr nw kd k) (cwV 1 C.2.2.2.2.1 gX5_bends_X4_kindAt rfl rfl rfl hdV_X4_kindAt ⟨Nat.le_of_ble_eq_true rfl, Nat.le_of_ble_eq_true rfl⟩) [1, 2] rfl rfl 1 rfl rfl rfl _ rfl (Nat.le_of_ble_eq_true rfl) ⟨Nat.zero_le _, Nat.zero_le _⟩ dX5_bends_37 ?_
          generalize hu37 : (F_X4_kindAt pn kd k) = u37 at hf ⊢
          refine z_iload_n C dX5_bends_40 rfl 3 rfl ?_
          refine z_cSR (As := [.int u37, .int x3_17]) C (c_X5_turnOf l D cI cO u37 x3_17) (va_cwS 2 C.2.2.2.2.1 gX5_bends_X5_turnOf rfl rfl rfl hdS_X5_turnOf ⟨Nat.le_of_ble_eq_true rfl, Nat.le_of_ble_eq_true rfl⟩) [] rfl rfl rfl _ rfl (Nat.le_of_ble_eq_true rfl) ⟨Nat.zero_le _, Nat.zero_le _⟩ dX5_bends_41 ?_
          generalize hu41 : (F_X5_turnOf u37 x3_17) = u41 at hf ⊢
          refine z_cVR (As := [.ref h4, .int k, .int u41]) C (c_X2_areSoWith l D cI cO h2 e1 e2 rc rp rw h4 a1 a2 a3 pn sl dr nw kd bd yr k u41) (cwV 3 C.2.2.2.2.1 gX5_bends_X2_areSoWith rfl rfl rfl hdV_X2_areSoWith ⟨Nat.le_of_ble_eq_true rfl, Nat.le_of_ble_eq_true rfl⟩) [5, 6, 7, 1, 2, 3, 4] rfl rfl 5 rfl rfl rfl _ rfl (Nat.le_of_ble_eq_true rfl) ⟨Nat.zero_le _, Nat.zero_le _⟩ dX5_bends_44 ?_
          generalize hu44 : (F_X2_areSoWith rc rp rw pn sl dr kd bd yr k u41) = u44 at hf ⊢
          refine z_if_eq (tgt := 56) C dX5_bends_47 (by decide) (fun c47 => ?_) (fun c47 => ?_)
          · rw [if_pos c47] at hf
            have b47 := c47
            rw [← hu44] at c47
            refine z_iinc (v := (x3_17 + (1 : Int32))) C [(0, .ref h5), (1, .int k), (2, .int x2_17), (3, .int (x3_17 + (1 : Int32)))] dX5_bends_56 3 rfl (by rfl) (by decide) [1, 2, 3, 0] rfl ?_
            refine z_goto (tgt := 17) C dX5_bends_59 (by decide) ?_
            exact ih17 (j + 1) x2_17 (x3_17 + (1 : Int32)) (by subst hu44 hu41 hu37 hu5; exact (by rw [e3]; exact nI_1 j)) (by subst hu44 hu41 hu37 hu5; exact (by have := z_jlt (n := 10) e3 (by omega) (by decide) c20; omega)) (by omega) hf
          · rw [if_neg c47] at hf
            have b47 := c47
            rw [← hu44] at c47
            refine z_iload_n C dX5_bends_50 rfl 2 rfl ?_
            refine z_iconst (v := (1 : Int32)) C dX5_bends_51 (by decide) ?_
            refine z_iload_n C dX5_bends_52 rfl 3 rfl ?_
            refine z_ishl C dX5_bends_53 ?_
            refine z_ior C dX5_bends_54 ?_
            refine z_istore_n C [(0, .ref h5), (1, .int k), (2, .int (x2_17 ||| ((1 : Int32) <<< (x3_17 &&& 31)))), (3, .int x3_17)] dX5_bends_55 rfl (by decide) [1, 2, 0, 3] rfl ?_
            refine z_iinc (v := (x3_17 + (1 : Int32))) C [(0, .ref h5), (1, .int k), (2, .int (x2_17 ||| ((1 : Int32) <<< (x3_17 &&& 31)))), (3, .int (x3_17 + (1 : Int32)))] dX5_bends_56 3 rfl (by rfl) (by decide) [1, 2, 3, 0] rfl ?_
            refine z_goto (tgt := 17) C dX5_bends_59 (by decide) ?_
            exact ih17 (j + 1) (x2_17 ||| ((1 : Int32) <<< (x3_17 &&& 31))) (x3_17 + (1 : Int32)) (by subst hu44 hu41 hu37 hu5; exact (by rw [e3]; exact nI_1 j)) (by subst hu44 hu41 hu37 hu5; exact (by have := z_jlt (n := 10) e3 (by omega) (by decide) c20; omega)) (by omega) hf
    exact L17 11 0 (0 : Int32) (0 : Int32) (by subst hu5; exact nI_0.symm) (by subst hu5; exact (Nat.zero_le _)) (by omega) hf
  · rw [if_pos c8] at hf
    have b8 := c8
    rw [← hu5] at c8
    refine z_iconst (v := (-1 : Int32)) C dX5_bends_11 (by decide) ?_
    exact z_iretR C hr hlk (by rw [hf]) dX5_bends_12
-- X5_kinds
theorem i_X5_kinds_5 : ∀ w ∈ u_ws RX5 TX5 7, w ∈ wsX5_kinds := by decide +kernel
theorem m_X5_kinds_1 : Cond.fieldLink RX5 12 "WishPins" "lying" "LWishPins$Well;" ∈ wsX5_kinds := List.mem_of_getElem? (i := 1) rfl
theorem m_X5_kinds_2 : Cond.fieldLink RX5 21 "WishPins" "readings" "LWishPins$Readings;" ∈ wsX5_kinds := List.mem_of_getElem? (i := 2) rfl
def F_X5_kinds_k17 (x2_17 : Int32) (x3_17 : Int32) : Int32 :=
  x2_17
def F_X5_kinds_l17 (pn : Int32) (sl : Int32) (dr : Int32) (kd : Nat → Int32) (bd : Nat → Int32) (yr : Nat → Int32) (rc : Int32) (rp : Nat → Int32) (rw : Nat → Int32) (k : Int32) (K_ : Int32 → Int32 → Int32) : Nat → Int32 → Int32 → Int32
  | 0, x2_17, x3_17 => K_ x2_17 x3_17
  | d17 + 1, x2_17, x3_17 => (if (2 : Int32) < x3_17 then (K_ x2_17 x3_17) else (if (F_X2_areSoWith rc rp rw pn sl dr kd bd yr k (F_X5_turnOf x3_17 (F_X4_bendAt pn bd k))) = 0 then (F_X5_kinds_l17 pn sl dr kd bd yr rc rp rw k K_ d17 x2_17 (x3_17 + (1 : Int32))) else (F_X5_kinds_l17 pn sl dr kd bd yr rc rp rw k K_ d17 (x2_17 ||| ((1 : Int32) <<< (x3_17 &&& 31))) (x3_17 + (1 : Int32)))))
def F_X5_kinds (pn : Int32) (sl : Int32) (dr : Int32) (kd : Nat → Int32) (bd : Nat → Int32) (yr : Nat → Int32) (rc : Int32) (rp : Nat → Int32) (rw : Nat → Int32) (k : Int32) : Int32 :=
  (if (F_X4_isPin pn k) = 0 then (-1 : Int32) else (F_X5_kinds_l17 pn sl dr kd bd yr rc rp rw k F_X5_kinds_k17 4 (0 : Int32) (0 : Int32)))
set_option maxHeartbeats 4000000 in
set_option maxRecDepth 100000 in
theorem c_X5_kinds (l : Launch) (D : va_G) (cI cO : ClassId) (h5 : Nat) (ash : Nat) (tr : Int32) (ft : Int32) (h4 : Nat) (a1 : Nat) (a2 : Nat) (a3 : Nat) (pn : Int32) (sl : Int32) (dr : Int32) (nw : Int32) (kd : Nat → Int32) (bd : Nat → Int32) (yr : Nat → Int32) (h2 : Nat) (e1 : Nat) (e2 : Nat) (rc : Int32) (rp : Nat → Int32) (rw : Nat → Int32) (h0 : Nat) (h1 : Nat) (k : Int32) : zR l yX5_kinds wsX5_kinds ({ frames := 3, cells := 0, slots := 0, locals := 68 } : Room) D cI cO [.ref h5, .int k] [(h5, .inr (5, [.ref h4, .ref h2, .ref h0, .ref h1, .ref ash, .int tr, .int ft])), (h4, .inr (4, [.ref a1, .ref a2, .ref a3, .int pn, .int sl, .int dr, .int nw])), (a1, .inl (cI, 9, .inl kd)), (a2, .inl (cI, 9, .inl bd)), (a3, .inl (cI, 9, .inl yr)), (h2, .inr (2, [.ref e1, .ref e2, .int rc])), (e1, .inl (cI, 8, .inl rp)), (e2, .inl (cI, 8, .inl rw))] (some (.int (F_X5_kinds pn sl dr kd bd yr rc rp rw k))) := by
  refine zR_of (nL := 4) (cc := cX5_kinds) (ret := some .int) (lv := [(0, .ref h5), (1, .int k)]) (by decide +kernel) rfl (Nat.le_of_ble_eq_true rfl) rfl (fun p e s m args below meth c C hr hlk => ?_)
  have hf := F_X5_kinds.eq_1 pn sl dr kd bd yr rc rp rw k
  refine z_aload_n C dX5_kinds_0 rfl 0 rfl ?_
  refine z_get (T := TX5) (v := .ref h4) C i_X5_kinds_5 0 rfl rfl 0 (by decide) m_X5_kinds_1 rfl rfl dX5_kinds_1 ?_
  refine z_iload_n C dX5_kinds_4 rfl 1 rfl ?_
  refine z_cVR (As := [.int k]) C (c_X4_isPin l D cI cO h4 a1 a2 a3 pn sl dr nw k) (cwV 1 C.2.2.2.2.1 gX5_kinds_X4_isPin rfl rfl rfl hdV_X4_isPin ⟨Nat.le_of_ble_eq_true rfl, Nat.le_of_ble_eq_true rfl⟩) [1] rfl rfl 1 rfl rfl rfl _ rfl (Nat.le_of_ble_eq_true rfl) ⟨Nat.zero_le _, Nat.zero_le _⟩ dX5_kinds_5 ?_
  generalize hu5 : (F_X4_isPin pn k) = u5 at hf ⊢
  refine z_if_ne (tgt := 13) C dX5_kinds_8 (by decide) (fun c8 => ?_) (fun c8 => ?_)
  · rw [if_neg c8] at hf
    have b8 := c8
    rw [← hu5] at c8
    refine z_iconst (v := (0 : Int32)) C dX5_kinds_13 (by decide) ?_
    refine z_istore_n C [(0, .ref h5), (1, .int k), (2, .int (0 : Int32))] dX5_kinds_14 rfl (by decide) [1, 2, 0] rfl ?_
    refine z_iconst (v := (0 : Int32)) C dX5_kinds_15 (by decide) ?_
    refine z_istore_n C [(0, .ref h5), (1, .int k), (2, .int (0 : Int32)), (3, .int (0 : Int32))] dX5_kinds_16 rfl (by decide) [1, 2, 3, 0] rfl ?_
    have X17 : ∀ (x2_17 : Int32) (x3_17 : Int32), F_X5_kinds pn sl dr kd bd yr rc rp rw k = F_X5_kinds_k17 x2_17 x3_17 → zG p l e ({ frames := 3, cells := 0, slots := 0, locals := 68 } : Room) s m args below meth c D (fun _ => True) (zXr s) 4 0 0 (MQ below (zQr (some (.int (F_X5_kinds pn sl dr kd bd yr rc rp rw k)))) args s 0 0 (fun _ => False)) 61 [(0, .ref h5), (1, .int k), (2, .int x2_17), (3, .int x3_17)] [] [(h5, .inr (5, [.ref h4, .ref h2, .ref h0, .ref h1, .ref ash, .int tr, .int ft])), (h4, .inr (4, [.ref a1, .ref a2, .ref a3, .int pn, .int sl, .int dr, .int nw])), (a1, .inl (cI, 9, .inl kd)), (a2, .inl (cI, 9, .inl bd)), (a3, .inl (cI, 9, .inl yr)), (h2, .inr (2, [.ref e1, .ref e2, .int rc])), (e1, .inl (cI, 8, .inl rp)), (e2, .inl (cI, 8, .inl rw))] := by
      intro x2_17 x3_17 hf
      rw [F_X5_kinds_k17] at hf
      skip
      refine z_iload_n C dX5_kinds_61 rfl 2 rfl ?_
      exact z_iretR C hr hlk (by rw [hf]) dX5_kinds_62
    have L17 : ∀ (d17 : Nat) (j : Nat) (x2_17 : Int32) (x3_17 : Int32) (e3 : x3_17 = nI j) (hj : j ≤ 3) (hd : 3 < j + d17), F_X5_kinds pn sl dr kd bd yr rc rp rw k = F_X5_kinds_l17 pn sl dr kd bd yr rc rp rw k F_X5_kinds_k17 d17 x2_17 x3_17 → zG p l e ({ frames := 3, cells := 0, slots := 0, locals := 68 } : Room) s m args below meth c D (fun _ => True) (zXr s) 4 0 0 (MQ below (zQr (some (.int (F_X5_kinds pn sl dr kd bd yr rc rp rw k)))) args s 0 0 (fun _ => False)) 17 [(0, .ref h5), (1, .int k), (2, .int x2_17), (3, .int x3_17)] [] [(h5, .inr (5, [.ref h4, .ref h2, .ref h0, .ref h1, .ref ash, .int tr, .int ft])), (h4, .inr (4, [.ref a1, .ref a2, .ref a3, .int pn, .int sl, .int dr, .int nw])), (a1, .inl (cI, 9, .inl kd)), (a2, .inl (cI, 9, .inl bd)), (a3, .inl (cI, 9, .inl yr)), (h2, .inr (2, [.ref e1, .ref e2, .int rc])), (e1, .inl (cI, 8, .inl rp)), (e2, .inl (cI, 8, .inl rw))] := by
      intro d17
      induction d17 with
      | zero =>
        intro j x2_17 x3_17 e3 hj hd hf
        exfalso; omega
      | succ d17 ih17 =>
        intro j x2_17 x3_17 e3 hj hd hf
        rw [F_X5_kinds_l17] at hf
        skip
        refine z_iload_n C dX5_kinds_17 rfl 3 rfl ?_
        refine z_iconst (v := (2 : Int32)) C dX5_kinds_18 (by decide) ?_
        refine z_icmp_gt (tgt := 61) C dX5_kinds_19 (by decide) (fun c19 => ?_) (fun c19 => ?_)
        · rw [if_pos c19] at hf
          exact X17 x2_17 x3_17  hf
        · rw [if_neg c19] at hf
          refine z_aload_n C dX5_kinds_22 rfl 0 rfl ?_
          refine z_get (T := TX5) (v := .ref h2) C i_X5_kinds_5 0 rfl rfl 1 (by decide) m_X5_kinds_2 rfl rfl dX5_kinds_23 ?_
          refine z_aload_n C dX5_kinds_26 rfl 0 rfl ?_
          refine z_get (T := TX5) (v := .ref h4) C i_X5_kinds_5 0 rfl rfl 0 (by decide) m_X5_kinds_1 rfl rfl dX5_kinds_27 ?_
          refine z_iload_n C dX5_kinds_30 rfl 1 rfl ?_
          refine z_iload_n C dX5_kinds_31 rfl 3 rfl ?_
          refine z_aload_n C dX5_kinds_32 rfl 0 rfl ?_
          refine z_get (T := TX5) (v := .ref h4) C i_X5_kinds_5 0 rfl rfl 0 (by decide) m_X5_kinds_1 rfl rfl dX5_kinds_33 ?_
          refine z_iload_n C dX5_kinds_36 rfl 1 rfl ?_
          refine z_cVR (As := [.int k]) C (c_X4_bendAt l D cI cO h4 a1 a2 a3 pn sl dr nw bd k) (cwV 1 C.2.2.2.2.1 gX5_kinds_X4_bendAt rfl rfl rfl hdV_X4_bendAt ⟨Nat.le_of_ble_eq_true rfl, Nat.le_of_ble_eq_true rfl⟩) [1, 3] rfl rfl 1 rfl rfl rfl _ rfl (Nat.le_of_ble_eq_true rfl) ⟨Nat.zero_le _, Nat.zero_le _⟩ dX5_kinds_37 ?_
          generalize hu37 : (F_X4_bendAt pn bd k) = u37 at hf ⊢
          refine z_cSR (As := [.int x3_17, .int u37]) C (c_X5_turnOf l D cI cO x3_17 u37) (va_cwS 2 C.2.2.2.2.1 gX5_kinds_X5_turnOf rfl rfl rfl hdS_X5_turnOf ⟨Nat.le_of_ble_eq_true rfl, Nat.le_of_ble_eq_true rfl⟩) [] rfl rfl rfl _ rfl (Nat.le_of_ble_eq_true rfl) ⟨Nat.zero_le _, Nat.zero_le _⟩ dX5_kinds_40 ?_
          generalize hu40 : (F_X5_turnOf x3_17 u37) = u40 at hf ⊢
          refine z_cVR (As := [.ref h4, .int k, .int u40]) C (c_X2_areSoWith l D cI cO h2 e1 e2 rc rp rw h4 a1 a2 a3 pn sl dr nw kd bd yr k u40) (cwV 3 C.2.2.2.2.1 gX5_kinds_X2_areSoWith rfl rfl rfl hdV_X2_areSoWith ⟨Nat.le_of_ble_eq_true rfl, Nat.le_of_ble_eq_true rfl⟩) [5, 6, 7, 1, 2, 3, 4] rfl rfl 5 rfl rfl rfl _ rfl (Nat.le_of_ble_eq_true rfl) ⟨Nat.zero_le _, Nat.zero_le _⟩ dX5_kinds_43 ?_
          generalize hu43 : (F_X2_areSoWith rc rp rw pn sl dr kd bd yr k u40) = u43 at hf ⊢
          refine z_if_eq (tgt := 55) C dX5_kinds_46 (by decide) (fun c46 => ?_) (fun c46 => ?_)
          · rw [if_pos c46] at hf
            have b46 := c46
            rw [← hu43] at c46
            refine z_iinc (v := (x3_17 + (1 : Int32))) C [(0, .ref h5), (1, .int k), (2, .int x2_17), (3, .int (x3_17 + (1 : Int32)))] dX5_kinds_55 3 rfl (by rfl) (by decide) [1, 2, 3, 0] rfl ?_
            refine z_goto (tgt := 17) C dX5_kinds_58 (by decide) ?_
            exact ih17 (j + 1) x2_17 (x3_17 + (1 : Int32)) (by subst hu43 hu40 hu37 hu5; exact (by rw [e3]; exact nI_1 j)) (by subst hu43 hu40 hu37 hu5; exact (by have := z_jle (n := 2) e3 (by omega) (by decide) c19; omega)) (by omega) hf
          · rw [if_neg c46] at hf
            have b46 := c46
            rw [← hu43] at c46
            refine z_iload_n C dX5_kinds_49 rfl 2 rfl ?_
            refine z_iconst (v := (1 : Int32)) C dX5_kinds_50 (by decide) ?_
            refine z_iload_n C dX5_kinds_51 rfl 3 rfl ?_
            refine z_ishl C dX5_kinds_52 ?_
            refine z_ior C dX5_kinds_53 ?_
            refine z_istore_n C [(0, .ref h5), (1, .int k), (2, .int (x2_17 ||| ((1 : Int32) <<< (x3_17 &&& 31)))), (3, .int x3_17)] dX5_kinds_54 rfl (by decide) [1, 2, 0, 3] rfl ?_
            refine z_iinc (v := (x3_17 + (1 : Int32))) C [(0, .ref h5), (1, .int k), (2, .int (x2_17 ||| ((1 : Int32) <<< (x3_17 &&& 31)))), (3, .int (x3_17 + (1 : Int32)))] dX5_kinds_55 3 rfl (by rfl) (by decide) [1, 2, 3, 0] rfl ?_
            refine z_goto (tgt := 17) C dX5_kinds_58 (by decide) ?_
            exact ih17 (j + 1) (x2_17 ||| ((1 : Int32) <<< (x3_17 &&& 31))) (x3_17 + (1 : Int32)) (by subst hu43 hu40 hu37 hu5; exact (by rw [e3]; exact nI_1 j)) (by subst hu43 hu40 hu37 hu5; exact (by have := z_jle (n := 2) e3 (by omega) (by decide) c19; omega)) (by omega) hf
    exact L17 4 0 (0 : Int32) (0 : Int32) (by subst hu5; exact nI_0.symm) (by subst hu5; exact (Nat.zero_le _)) (by omega) hf
  · rw [if_pos c8] at hf
    have b8 := c8
    rw [← hu5] at c8
    refine z_iconst (v := (-1 : Int32)) C dX5_kinds_11 (by decide) ?_
    exact z_iretR C hr hlk (by rw [hf]) dX5_kinds_12
