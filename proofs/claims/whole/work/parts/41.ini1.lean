-- X4_init
def pX4_init (cI cO : ClassId) (h : Nat) : va_W → Prop := fun w => ∃ a1 a2 a3 : Nat, w = [(h, .inr (4, [.ref a1, .ref a2, .ref a3, .int (0 : Int32), .int (0 : Int32), .int (0 : Int32), .int (0 : Int32)])), (a1, .inl (cI, 9, .inl (fun _ => 0))), (a2, .inl (cI, 9, .inl (fun _ => 0))), (a3, .inl (cI, 9, .inl (fun _ => 0)))]
theorem m_X4_init_1 : Cond.methodLink RX4 3 objectInit ∈ wsX4_init := List.mem_of_getElem? (i := 1) rfl
theorem m_X4_init_2 : Cond.instanceMethod objectInit ∈ wsX4_init := List.mem_of_getElem? (i := 2) rfl
theorem m_X4_init_3 : Cond.code objectInit ⟨#[0xb1]⟩ 1 none ∈ wsX4_init := List.mem_of_getElem? (i := 3) rfl
theorem m_X4_init_4 : Cond.arrayClass .int ∈ wsX4_init := List.mem_of_getElem? (i := 4) rfl
theorem i_X4_init_4 : ∀ w ∈ u_ws RX4 TX4 7, w ∈ wsX4_init := by decide +kernel
theorem m_X4_init_5 : Cond.fieldLink RX4 9 "WishPins$Well" "kind" "[I" ∈ wsX4_init := List.mem_of_getElem? (i := 5) rfl
theorem m_X4_init_6 : Cond.fieldLink RX4 15 "WishPins$Well" "bend" "[I" ∈ wsX4_init := List.mem_of_getElem? (i := 6) rfl
theorem m_X4_init_7 : Cond.fieldLink RX4 18 "WishPins$Well" "year" "[I" ∈ wsX4_init := List.mem_of_getElem? (i := 7) rfl
set_option maxHeartbeats 4000000 in
set_option maxRecDepth 100000 in
theorem c_X4_init (l : Launch) (D : va_G) (cI cO : ClassId) (h : Nat) : zI l yX4_init wsX4_init ({ frames := 1, cells := 3, slots := 27, locals := 12 } : Room) D cI cO false [.ref h] [(h, .inr (4, [.null, .null, .null, .int (0 : Int32), .int (0 : Int32), .int (0 : Int32), .int (0 : Int32)]))] (pX4_init cI cO h) 3 27 := by
  refine zI_of (nL := 1) (cc := cX4_init) (lv := [(0, .ref h)]) (by decide +kernel) rfl rfl (Nat.le_of_ble_eq_true rfl) rfl (fun p e s m args below meth c A C hr hlk hin hb hA => ?_)
  refine z_aload_n C dX4_init_0 rfl 0 rfl ?_
  refine z_objI C m_X4_init_1 m_X4_init_2 m_X4_init_3 (Nat.le_of_ble_eq_true rfl) (Nat.le_of_ble_eq_true rfl) dX4_init_1 ?_
  refine z_aload_n C dX4_init_4 rfl 0 rfl ?_
  refine z_bipush (v := (9 : Int32)) C dX4_init_5 (by decide) ?_
  refine z_newa C hA m_X4_init_4 (by decide) (by decide : _ = 9) (Nat.le_of_ble_eq_true rfl) (by rfl : _ = 1) (by rfl : _ = 9) (Nat.le_of_ble_eq_true rfl) (Nat.le_of_ble_eq_true rfl) dX4_init_7 (fun o0 => ?_)
  refine z_putF (T := TX4) (ty := .array .int) C [(h, .inr (4, [.ref o0, .null, .null, .int (0 : Int32), .int (0 : Int32), .int (0 : Int32), .int (0 : Int32)])), (o0, .inl (cI, 9, .inl (fun _ => 0)))] i_X4_init_4 tyX4 tyX4_ok nmX4 0 rfl rfl 0 (by decide) m_X4_init_5 rfl rfl hin rfl (by decide +kernel) rfl rfl (Nat.le_of_ble_eq_true rfl) dX4_init_9 rfl ?_
  refine z_aload_n C dX4_init_12 rfl 0 rfl ?_
  refine z_bipush (v := (9 : Int32)) C dX4_init_13 (by decide) ?_
  refine z_newa C hA m_X4_init_4 (by decide) (by decide : _ = 9) (Nat.le_of_ble_eq_true rfl) (by rfl : _ = 2) (by rfl : _ = 18) (Nat.le_of_ble_eq_true rfl) (Nat.le_of_ble_eq_true rfl) dX4_init_15 (fun o1 => ?_)
  refine z_putF (T := TX4) (ty := .array .int) C [(h, .inr (4, [.ref o0, .ref o1, .null, .int (0 : Int32), .int (0 : Int32), .int (0 : Int32), .int (0 : Int32)])), (o0, .inl (cI, 9, .inl (fun _ => 0))), (o1, .inl (cI, 9, .inl (fun _ => 0)))] i_X4_init_4 tyX4 tyX4_ok nmX4 0 rfl rfl 1 (by decide) m_X4_init_6 rfl rfl hin rfl (by decide +kernel) rfl rfl (Nat.le_of_ble_eq_true rfl) dX4_init_17 rfl ?_
  refine z_aload_n C dX4_init_20 rfl 0 rfl ?_
  refine z_bipush (v := (9 : Int32)) C dX4_init_21 (by decide) ?_
  refine z_newa C hA m_X4_init_4 (by decide) (by decide : _ = 9) (Nat.le_of_ble_eq_true rfl) (by rfl : _ = 3) (by rfl : _ = 27) (Nat.le_of_ble_eq_true rfl) (Nat.le_of_ble_eq_true rfl) dX4_init_23 (fun o2 => ?_)
  refine z_putF (T := TX4) (ty := .array .int) C [(h, .inr (4, [.ref o0, .ref o1, .ref o2, .int (0 : Int32), .int (0 : Int32), .int (0 : Int32), .int (0 : Int32)])), (o0, .inl (cI, 9, .inl (fun _ => 0))), (o1, .inl (cI, 9, .inl (fun _ => 0))), (o2, .inl (cI, 9, .inl (fun _ => 0)))] i_X4_init_4 tyX4 tyX4_ok nmX4 0 rfl rfl 2 (by decide) m_X4_init_7 rfl rfl hin rfl (by decide +kernel) rfl rfl (Nat.le_of_ble_eq_true rfl) dX4_init_25 rfl ?_
  exact z_vretI C hr hlk rfl rfl ⟨o0, o1, o2, rfl⟩ dX4_init_28
-- X2_init
def pX2_init (cI cO : ClassId) (h : Nat) : va_W → Prop := fun w => ∃ e1 e2 : Nat, w = [(h, .inr (2, [.ref e1, .ref e2, .int (0 : Int32)])), (e1, .inl (cI, 8, .inl (fun _ => 0))), (e2, .inl (cI, 8, .inl (fun _ => 0)))]
theorem m_X2_init_1 : Cond.methodLink RX2 3 objectInit ∈ wsX2_init := List.mem_of_getElem? (i := 1) rfl
theorem m_X2_init_2 : Cond.instanceMethod objectInit ∈ wsX2_init := List.mem_of_getElem? (i := 2) rfl
theorem m_X2_init_3 : Cond.code objectInit ⟨#[0xb1]⟩ 1 none ∈ wsX2_init := List.mem_of_getElem? (i := 3) rfl
theorem m_X2_init_4 : Cond.arrayClass .int ∈ wsX2_init := List.mem_of_getElem? (i := 4) rfl
theorem i_X2_init_2 : ∀ w ∈ u_ws RX2 TX2 3, w ∈ wsX2_init := by decide +kernel
theorem m_X2_init_5 : Cond.fieldLink RX2 9 "WishPins$Readings" "pin" "[I" ∈ wsX2_init := List.mem_of_getElem? (i := 5) rfl
theorem m_X2_init_6 : Cond.fieldLink RX2 15 "WishPins$Readings" "wish" "[I" ∈ wsX2_init := List.mem_of_getElem? (i := 6) rfl
set_option maxHeartbeats 4000000 in
set_option maxRecDepth 100000 in
theorem c_X2_init (l : Launch) (D : va_G) (cI cO : ClassId) (h : Nat) : zI l yX2_init wsX2_init ({ frames := 1, cells := 2, slots := 16, locals := 12 } : Room) D cI cO false [.ref h] [(h, .inr (2, [.null, .null, .int (0 : Int32)]))] (pX2_init cI cO h) 2 16 := by
  refine zI_of (nL := 1) (cc := cX2_init) (lv := [(0, .ref h)]) (by decide +kernel) rfl rfl (Nat.le_of_ble_eq_true rfl) rfl (fun p e s m args below meth c A C hr hlk hin hb hA => ?_)
  refine z_aload_n C dX2_init_0 rfl 0 rfl ?_
  refine z_objI C m_X2_init_1 m_X2_init_2 m_X2_init_3 (Nat.le_of_ble_eq_true rfl) (Nat.le_of_ble_eq_true rfl) dX2_init_1 ?_
  refine z_aload_n C dX2_init_4 rfl 0 rfl ?_
  refine z_bipush (v := (8 : Int32)) C dX2_init_5 (by decide) ?_
  refine z_newa C hA m_X2_init_4 (by decide) (by decide : _ = 8) (Nat.le_of_ble_eq_true rfl) (by rfl : _ = 1) (by rfl : _ = 8) (Nat.le_of_ble_eq_true rfl) (Nat.le_of_ble_eq_true rfl) dX2_init_7 (fun o0 => ?_)
  refine z_putF (T := TX2) (ty := .array .int) C [(h, .inr (2, [.ref o0, .null, .int (0 : Int32)])), (o0, .inl (cI, 8, .inl (fun _ => 0)))] i_X2_init_2 tyX2 tyX2_ok nmX2 0 rfl rfl 0 (by decide) m_X2_init_5 rfl rfl hin rfl (by decide +kernel) rfl rfl (Nat.le_of_ble_eq_true rfl) dX2_init_9 rfl ?_
  refine z_aload_n C dX2_init_12 rfl 0 rfl ?_
  refine z_bipush (v := (8 : Int32)) C dX2_init_13 (by decide) ?_
  refine z_newa C hA m_X2_init_4 (by decide) (by decide : _ = 8) (Nat.le_of_ble_eq_true rfl) (by rfl : _ = 2) (by rfl : _ = 16) (Nat.le_of_ble_eq_true rfl) (Nat.le_of_ble_eq_true rfl) dX2_init_15 (fun o1 => ?_)
  refine z_putF (T := TX2) (ty := .array .int) C [(h, .inr (2, [.ref o0, .ref o1, .int (0 : Int32)])), (o0, .inl (cI, 8, .inl (fun _ => 0))), (o1, .inl (cI, 8, .inl (fun _ => 0)))] i_X2_init_2 tyX2 tyX2_ok nmX2 0 rfl rfl 1 (by decide) m_X2_init_6 rfl rfl hin rfl (by decide +kernel) rfl rfl (Nat.le_of_ble_eq_true rfl) dX2_init_17 rfl ?_
  exact z_vretI C hr hlk rfl rfl ⟨o0, o1, rfl⟩ dX2_init_20
-- X1_init
def pX1_init (cI cO : ClassId) (h : Nat) : va_W → Prop := fun w => ∃ g1 g2 g3 : Nat, w = [(h, .inr (1, [.ref g1, .ref g2, .ref g3, .int (0 : Int32), .int (0 : Int32)])), (g1, .inl (cI, 9, .inl (fun _ => 0))), (g2, .inl (cI, 9, .inl (fun _ => 0))), (g3, .inl (cI, 6, .inl (fun _ => 0)))]
theorem m_X1_init_1 : Cond.methodLink RX1 3 objectInit ∈ wsX1_init := List.mem_of_getElem? (i := 1) rfl
theorem m_X1_init_2 : Cond.instanceMethod objectInit ∈ wsX1_init := List.mem_of_getElem? (i := 2) rfl
theorem m_X1_init_3 : Cond.code objectInit ⟨#[0xb1]⟩ 1 none ∈ wsX1_init := List.mem_of_getElem? (i := 3) rfl
theorem m_X1_init_4 : Cond.arrayClass .int ∈ wsX1_init := List.mem_of_getElem? (i := 4) rfl
theorem i_X1_init_1 : ∀ w ∈ u_ws RX1 TX1 5, w ∈ wsX1_init := by decide +kernel
theorem m_X1_init_5 : Cond.fieldLink RX1 9 "WishPins$Layers" "share" "[I" ∈ wsX1_init := List.mem_of_getElem? (i := 5) rfl
theorem m_X1_init_6 : Cond.fieldLink RX1 15 "WishPins$Layers" "wanted" "[I" ∈ wsX1_init := List.mem_of_getElem? (i := 6) rfl
theorem m_X1_init_7 : Cond.fieldLink RX1 18 "WishPins$Layers" "spare" "[I" ∈ wsX1_init := List.mem_of_getElem? (i := 7) rfl
set_option maxHeartbeats 4000000 in
set_option maxRecDepth 100000 in
theorem c_X1_init (l : Launch) (D : va_G) (cI cO : ClassId) (h : Nat) : zI l yX1_init wsX1_init ({ frames := 1, cells := 3, slots := 24, locals := 12 } : Room) D cI cO false [.ref h] [(h, .inr (1, [.null, .null, .null, .int (0 : Int32), .int (0 : Int32)]))] (pX1_init cI cO h) 3 24 := by
  refine zI_of (nL := 1) (cc := cX1_init) (lv := [(0, .ref h)]) (by decide +kernel) rfl rfl (Nat.le_of_ble_eq_true rfl) rfl (fun p e s m args below meth c A C hr hlk hin hb hA => ?_)
  refine z_aload_n C dX1_init_0 rfl 0 rfl ?_
  refine z_objI C m_X1_init_1 m_X1_init_2 m_X1_init_3 (Nat.le_of_ble_eq_true rfl) (Nat.le_of_ble_eq_true rfl) dX1_init_1 ?_
  refine z_aload_n C dX1_init_4 rfl 0 rfl ?_
  refine z_bipush (v := (9 : Int32)) C dX1_init_5 (by decide) ?_
  refine z_newa C hA m_X1_init_4 (by decide) (by decide : _ = 9) (Nat.le_of_ble_eq_true rfl) (by rfl : _ = 1) (by rfl : _ = 9) (Nat.le_of_ble_eq_true rfl) (Nat.le_of_ble_eq_true rfl) dX1_init_7 (fun o0 => ?_)
  refine z_putF (T := TX1) (ty := .array .int) C [(h, .inr (1, [.ref o0, .null, .null, .int (0 : Int32), .int (0 : Int32)])), (o0, .inl (cI, 9, .inl (fun _ => 0)))] i_X1_init_1 tyX1 tyX1_ok nmX1 0 rfl rfl 0 (by decide) m_X1_init_5 rfl rfl hin rfl (by decide +kernel) rfl rfl (Nat.le_of_ble_eq_true rfl) dX1_init_9 rfl ?_
  refine z_aload_n C dX1_init_12 rfl 0 rfl ?_
  refine z_bipush (v := (9 : Int32)) C dX1_init_13 (by decide) ?_
  refine z_newa C hA m_X1_init_4 (by decide) (by decide : _ = 9) (Nat.le_of_ble_eq_true rfl) (by rfl : _ = 2) (by rfl : _ = 18) (Nat.le_of_ble_eq_true rfl) (Nat.le_of_ble_eq_true rfl) dX1_init_15 (fun o1 => ?_)
  refine z_putF (T := TX1) (ty := .array .int) C [(h, .inr (1, [.ref o0, .ref o1, .null, .int (0 : Int32), .int (0 : Int32)])), (o0, .inl (cI, 9, .inl (fun _ => 0))), (o1, .inl (cI, 9, .inl (fun _ => 0)))] i_X1_init_1 tyX1 tyX1_ok nmX1 0 rfl rfl 1 (by decide) m_X1_init_6 rfl rfl hin rfl (by decide +kernel) rfl rfl (Nat.le_of_ble_eq_true rfl) dX1_init_17 rfl ?_
  refine z_aload_n C dX1_init_20 rfl 0 rfl ?_
  refine z_bipush (v := (6 : Int32)) C dX1_init_21 (by decide) ?_
  refine z_newa C hA m_X1_init_4 (by decide) (by decide : _ = 6) (Nat.le_of_ble_eq_true rfl) (by rfl : _ = 3) (by rfl : _ = 24) (Nat.le_of_ble_eq_true rfl) (Nat.le_of_ble_eq_true rfl) dX1_init_23 (fun o2 => ?_)
  refine z_putF (T := TX1) (ty := .array .int) C [(h, .inr (1, [.ref o0, .ref o1, .ref o2, .int (0 : Int32), .int (0 : Int32)])), (o0, .inl (cI, 9, .inl (fun _ => 0))), (o1, .inl (cI, 9, .inl (fun _ => 0))), (o2, .inl (cI, 6, .inl (fun _ => 0)))] i_X1_init_1 tyX1 tyX1_ok nmX1 0 rfl rfl 2 (by decide) m_X1_init_7 rfl rfl hin rfl (by decide +kernel) rfl rfl (Nat.le_of_ble_eq_true rfl) dX1_init_25 rfl ?_
  exact z_vretI C hr hlk rfl rfl ⟨o0, o1, o2, rfl⟩ dX1_init_28
-- X3_init
def pX3_init (cI cO : ClassId) (h : Nat) : va_W → Prop := fun w => ∃ b1 : Nat, w = [(h, .inr (3, [.ref b1, .int (-1 : Int32), .int (0 : Int32)])), (b1, .inl (cI, 60, .inl (fun _ => 0)))]
theorem m_X3_init_1 : Cond.methodLink RX3 3 objectInit ∈ wsX3_init := List.mem_of_getElem? (i := 1) rfl
theorem m_X3_init_2 : Cond.instanceMethod objectInit ∈ wsX3_init := List.mem_of_getElem? (i := 2) rfl
theorem m_X3_init_3 : Cond.code objectInit ⟨#[0xb1]⟩ 1 none ∈ wsX3_init := List.mem_of_getElem? (i := 3) rfl
theorem m_X3_init_4 : Cond.arrayClass .int ∈ wsX3_init := List.mem_of_getElem? (i := 4) rfl
theorem i_X3_init_3 : ∀ w ∈ u_ws RX3 TX3 3, w ∈ wsX3_init := by decide +kernel
theorem m_X3_init_5 : Cond.fieldLink RX3 9 "WishPins$Sheet" "cells" "[I" ∈ wsX3_init := List.mem_of_getElem? (i := 5) rfl
theorem m_X3_init_6 : Cond.fieldLink RX3 15 "WishPins$Sheet" "lane" "I" ∈ wsX3_init := List.mem_of_getElem? (i := 6) rfl
set_option maxHeartbeats 4000000 in
set_option maxRecDepth 100000 in
theorem c_X3_init (l : Launch) (D : va_G) (cI cO : ClassId) (h : Nat) : zI l yX3_init wsX3_init ({ frames := 1, cells := 1, slots := 60, locals := 12 } : Room) D cI cO false [.ref h] [(h, .inr (3, [.null, .int (0 : Int32), .int (0 : Int32)]))] (pX3_init cI cO h) 1 60 := by
  refine zI_of (nL := 1) (cc := cX3_init) (lv := [(0, .ref h)]) (by decide +kernel) rfl rfl (Nat.le_of_ble_eq_true rfl) rfl (fun p e s m args below meth c A C hr hlk hin hb hA => ?_)
  refine z_aload_n C dX3_init_0 rfl 0 rfl ?_
  refine z_objI C m_X3_init_1 m_X3_init_2 m_X3_init_3 (Nat.le_of_ble_eq_true rfl) (Nat.le_of_ble_eq_true rfl) dX3_init_1 ?_
  refine z_aload_n C dX3_init_4 rfl 0 rfl ?_
  refine z_bipush (v := (60 : Int32)) C dX3_init_5 (by decide) ?_
  refine z_newa C hA m_X3_init_4 (by decide) (by decide : _ = 60) (Nat.le_of_ble_eq_true rfl) (by rfl : _ = 1) (by rfl : _ = 60) (Nat.le_of_ble_eq_true rfl) (Nat.le_of_ble_eq_true rfl) dX3_init_7 (fun o0 => ?_)
  refine z_putF (T := TX3) (ty := .array .int) C [(h, .inr (3, [.ref o0, .int (0 : Int32), .int (0 : Int32)])), (o0, .inl (cI, 60, .inl (fun _ => 0)))] i_X3_init_3 tyX3 tyX3_ok nmX3 0 rfl rfl 0 (by decide) m_X3_init_5 rfl rfl hin rfl (by decide +kernel) rfl rfl (Nat.le_of_ble_eq_true rfl) dX3_init_9 rfl ?_
  refine z_aload_n C dX3_init_12 rfl 0 rfl ?_
  refine z_iconst (v := (-1 : Int32)) C dX3_init_13 (by decide) ?_
  refine z_put (T := TX3) (ty := .int) C [(h, .inr (3, [.ref o0, .int (-1 : Int32), .int (0 : Int32)])), (o0, .inl (cI, 60, .inl (fun _ => 0)))] i_X3_init_3 tyX3 tyX3_ok nmX3 0 rfl rfl 1 (by decide) m_X3_init_6 rfl rfl (by decide +kernel) rfl rfl (Nat.le_of_ble_eq_true rfl) dX3_init_14 rfl ?_
  exact z_vretI C hr hlk rfl rfl ⟨o0, rfl⟩ dX3_init_17
-- X0_init
def pX0_init (cI cO : ClassId) (h : Nat) : va_W → Prop := fun w => ∃ h4t a1t a2t a3t : Nat, w = [(h, .inr (0, [.ref h4t, .int (0 : Int32), .int (0 : Int32)])), (h4t, .inr (4, [.ref a1t, .ref a2t, .ref a3t, .int (0 : Int32), .int (0 : Int32), .int (0 : Int32), .int (0 : Int32)])), (a1t, .inl (cI, 9, .inl (fun _ => 0))), (a2t, .inl (cI, 9, .inl (fun _ => 0))), (a3t, .inl (cI, 9, .inl (fun _ => 0)))]
theorem m_X0_init_1 : Cond.methodLink RX0 3 objectInit ∈ wsX0_init := List.mem_of_getElem? (i := 1) rfl
theorem m_X0_init_2 : Cond.instanceMethod objectInit ∈ wsX0_init := List.mem_of_getElem? (i := 2) rfl
theorem m_X0_init_3 : Cond.code objectInit ⟨#[0xb1]⟩ 1 none ∈ wsX0_init := List.mem_of_getElem? (i := 3) rfl
theorem i_X0_init_4 : ∀ w ∈ u_ws RX4 TX4 7, w ∈ wsX0_init := by decide +kernel
theorem m_X0_init_4 : Cond.classLink RX0 9 RX4 ∈ wsX0_init := List.mem_of_getElem? (i := 4) rfl
theorem m_X0_init_5 : Cond.instantiable RX4 7 ∈ wsX0_init := List.mem_of_getElem? (i := 5) rfl
theorem m_X0_init_6 : Cond.initialized RX4 ∈ wsX0_init := List.mem_of_getElem? (i := 6) rfl
theorem m_X0_init_8 : Cond.instanceMethod yX4_init ∈ wsX0_init := List.mem_of_getElem? (i := 8) rfl
theorem i_X0_init_0 : ∀ w ∈ u_ws RX0 TX0 3, w ∈ wsX0_init := by decide +kernel
theorem m_X0_init_7 : Cond.fieldLink RX0 12 "WishPins$Century" "then" "LWishPins$Well;" ∈ wsX0_init := List.mem_of_getElem? (i := 7) rfl
set_option maxHeartbeats 4000000 in
set_option maxRecDepth 100000 in
theorem c_X0_init (l : Launch) (D : va_G) (cI cO : ClassId) (h : Nat) : zI l yX0_init wsX0_init ({ frames := 2, cells := 4, slots := 34, locals := 32 } : Room) D cI cO false [.ref h] [(h, .inr (0, [.null, .int (0 : Int32), .int (0 : Int32)]))] (pX0_init cI cO h) 4 34 := by
  refine zI_of (nL := 1) (cc := cX0_init) (lv := [(0, .ref h)]) (by decide +kernel) rfl rfl (Nat.le_of_ble_eq_true rfl) rfl (fun p e s m args below meth c A C hr hlk hin hb hA => ?_)
  refine z_aload_n C dX0_init_0 rfl 0 rfl ?_
  refine z_objI C m_X0_init_1 m_X0_init_2 m_X0_init_3 (Nat.le_of_ble_eq_true rfl) (Nat.le_of_ble_eq_true rfl) dX0_init_1 ?_
  refine z_aload_n C dX0_init_4 rfl 0 rfl ?_
  refine z_new (T := TX4) (ci := 4) C hA i_X0_init_4 tyX4 tyX4_ok m_X0_init_4 m_X0_init_5 m_X0_init_6 rfl [.null, .null, .null, .int (0 : Int32), .int (0 : Int32), .int (0 : Int32), .int (0 : Int32)] (fun j hj => by rcases (show j = 0 ∨ j = 1 ∨ j = 2 ∨ j = 3 ∨ j = 4 ∨ j = 5 ∨ j = 6 by omega) with rfl | rfl | rfl | rfl | rfl | rfl | rfl <;> rfl) (by rfl : _ = 1) (by rfl : _ = 7) (Nat.le_of_ble_eq_true rfl) (Nat.le_of_ble_eq_true rfl) dX0_init_5 (fun o0 => ?_)
  refine zW_perm (ws' := [(h, .inr (0, [.null, .int (0 : Int32), .int (0 : Int32)])), (o0, .inr (4, [.null, .null, .null, .int (0 : Int32), .int (0 : Int32), .int (0 : Int32), .int (0 : Int32)]))]) [0, 1] rfl rfl ?_
  refine z_dup C dX0_init_8 rfl ?_
  refine z_cIN (wr := [(h, .inr (0, [.null, .int (0 : Int32), .int (0 : Int32)]))]) C (c_X4_init l D cI cO o0) ⟨va_cnB 0 C.2.2.2.2.1 gX0_init_X4_init_n11 rfl rfl rfl (zN_5 C.2.2.2.2.2.2) (C.2.2.2.2.1 _ m_X0_init_6) hdS_X4_init ⟨Nat.le_of_ble_eq_true rfl, Nat.le_of_ble_eq_true rfl⟩, rfl, C.2.2.2.2.1 _ m_X0_init_8⟩ (fun h9 => absurd h9 (by decide)) hA [1] [0] rfl rfl rfl rfl (by decide) (Nat.le_of_ble_eq_true rfl) (by rfl : _ = 4) (by rfl : _ = 34) ⟨(Nat.le_of_ble_eq_true rfl), (Nat.le_of_ble_eq_true rfl)⟩ dX0_init_9 (fun w1 hw1 => ?_)
  obtain ⟨a1_1, a2_1, a3_1, rfl⟩ := hw1
  refine zW_perm (ws' := [(h, .inr (0, [.null, .int (0 : Int32), .int (0 : Int32)])), (o0, .inr (4, [.ref a1_1, .ref a2_1, .ref a3_1, .int (0 : Int32), .int (0 : Int32), .int (0 : Int32), .int (0 : Int32)])), (a1_1, .inl (cI, 9, .inl (fun _ => 0))), (a2_1, .inl (cI, 9, .inl (fun _ => 0))), (a3_1, .inl (cI, 9, .inl (fun _ => 0)))]) [0, 1, 2, 3, 4] rfl rfl ?_
  refine z_putF (T := TX0) (ty := .object "WishPins$Well") C [(h, .inr (0, [.ref o0, .int (0 : Int32), .int (0 : Int32)])), (o0, .inr (4, [.ref a1_1, .ref a2_1, .ref a3_1, .int (0 : Int32), .int (0 : Int32), .int (0 : Int32), .int (0 : Int32)])), (a1_1, .inl (cI, 9, .inl (fun _ => 0))), (a2_1, .inl (cI, 9, .inl (fun _ => 0))), (a3_1, .inl (cI, 9, .inl (fun _ => 0)))] i_X0_init_0 tyX0 tyX0_ok nmX0 0 rfl rfl 0 (by decide) m_X0_init_7 rfl rfl hin rfl (by decide +kernel) rfl rfl (Nat.le_of_ble_eq_true rfl) dX0_init_12 rfl ?_
  exact z_vretI C hr hlk rfl rfl ⟨o0, a1_1, a2_1, a3_1, rfl⟩ dX0_init_15
