-- X5_keys
theorem i_X5_keys_5 : ∀ w ∈ u_ws RX5 TX5 7, w ∈ wsX5_keys := by decide +kernel
theorem m_X5_keys_1 : Cond.fieldLink RX5 21 "WishPins" "readings" "LWishPins$Readings;" ∈ wsX5_keys := List.mem_of_getElem? (i := 1) rfl
theorem m_X5_keys_2 : Cond.fieldLink RX5 12 "WishPins" "lying" "LWishPins$Well;" ∈ wsX5_keys := List.mem_of_getElem? (i := 2) rfl
def F_X5_keys_k34 (w : Int32) (x2_34 : Int32) (x3_34 : Int32) (x4_34 : Int32) (x5_34 : Int32) : Int32 :=
  (if w = 0 then x2_34 else (if w = (1 : Int32) then x3_34 else x4_34))
def F_X5_keys_k43 (rec_ : Int32 → Int32 → Int32 → Int32 → Int32) (x5_34 : Int32) (x2_43 : Int32) (x3_43 : Int32) (x4_43 : Int32) (x6_43 : Int32) : Int32 :=
  (rec_ x2_43 x3_43 x4_43 (x5_34 + (1 : Int32)))
def F_X5_keys_l43 (pn : Int32) (kd : Nat → Int32) (bd : Nat → Int32) (yr : Nat → Int32) (rc : Int32) (rp : Nat → Int32) (rw : Nat → Int32) (x5_34 : Int32) (K_ : Int32 → Int32 → Int32 → Int32 → Int32) : Nat → Int32 → Int32 → Int32 → Int32 → Int32
  | 0, x2_43, x3_43, x4_43, x6_43 => K_ x2_43 x3_43 x4_43 x6_43
  | d43 + 1, x2_43, x3_43, x4_43, x6_43 => (if (5 : Int32) < x6_43 then (K_ x2_43 x3_43 x4_43 x6_43) else (if (F_X2_areSoByKey rc rp rw pn kd bd yr x5_34 x6_43) = 0 then (F_X5_keys_l43 pn kd bd yr rc rp rw x5_34 K_ d43 x2_43 x3_43 x4_43 (x6_43 + (1 : Int32))) else (if x3_43 = (-9 : Int32) then (F_X5_keys_l43 pn kd bd yr rc rp rw x5_34 K_ d43 (x2_43 + (1 : Int32)) (F_X5_keyNumber x5_34 x6_43) (F_X5_keyNumber x5_34 x6_43) (x6_43 + (1 : Int32))) else (F_X5_keys_l43 pn kd bd yr rc rp rw x5_34 K_ d43 (x2_43 + (1 : Int32)) x3_43 (F_X5_keyNumber x5_34 x6_43) (x6_43 + (1 : Int32))))))
def F_X5_keys_l34 (pn : Int32) (kd : Nat → Int32) (bd : Nat → Int32) (yr : Nat → Int32) (rc : Int32) (rp : Nat → Int32) (rw : Nat → Int32) (K_ : Int32 → Int32 → Int32 → Int32 → Int32) : Nat → Int32 → Int32 → Int32 → Int32 → Int32
  | 0, x2_34, x3_34, x4_34, x5_34 => K_ x2_34 x3_34 x4_34 x5_34
  | d34 + 1, x2_34, x3_34, x4_34, x5_34 => (if (5 : Int32) < x5_34 then (K_ x2_34 x3_34 x4_34 x5_34) else (F_X5_keys_l43 pn kd bd yr rc rp rw x5_34 (F_X5_keys_k43 (fun x2_34_r x3_34_r x4_34_r x5_34_r => F_X5_keys_l34 pn kd bd yr rc rp rw K_ d34 x2_34_r x3_34_r x4_34_r x5_34_r) x5_34) 7 x2_34 x3_34 x4_34 (0 : Int32)))
def F_X5_keys (pn : Int32) (kd : Nat → Int32) (bd : Nat → Int32) (yr : Nat → Int32) (rc : Int32) (rp : Nat → Int32) (rw : Nat → Int32) (w : Int32) : Int32 :=
  (if (F_X5_hasWell pn) = 0 then (-3 : Int32) else (if w < 0 then (-2 : Int32) else (if w ≤ (2 : Int32) then (F_X5_keys_l34 pn kd bd yr rc rp rw (F_X5_keys_k34 w) 6 (0 : Int32) (-9 : Int32) (-9 : Int32) (1 : Int32)) else (-2 : Int32))))
set_option maxHeartbeats 4000000 in
set_option maxRecDepth 100000 in
theorem c_X5_keys (l : Launch) (D : va_G) (cI cO : ClassId) (h5 : Nat) (ash : Nat) (tr : Int32) (ft : Int32) (h4 : Nat) (a1 : Nat) (a2 : Nat) (a3 : Nat) (pn : Int32) (sl : Int32) (dr : Int32) (nw : Int32) (kd : Nat → Int32) (bd : Nat → Int32) (yr : Nat → Int32) (h2 : Nat) (e1 : Nat) (e2 : Nat) (rc : Int32) (rp : Nat → Int32) (rw : Nat → Int32) (h0 : Nat) (h1 : Nat) (w : Int32) : zR l yX5_keys wsX5_keys ({ frames := 3, cells := 0, slots := 0, locals := 67 } : Room) D cI cO [.ref h5, .int w] [(h5, .inr (5, [.ref h4, .ref h2, .ref h0, .ref h1, .ref ash, .int tr, .int ft])), (h4, .inr (4, [.ref a1, .ref a2, .ref a3, .int pn, .int sl, .int dr, .int nw])), (a1, .inl (cI, 9, .inl kd)), (a2, .inl (cI, 9, .inl bd)), (a3, .inl (cI, 9, .inl yr)), (h2, .inr (2, [.ref e1, .ref e2, .int rc])), (e1, .inl (cI, 8, .inl rp)), (e2, .inl (cI, 8, .inl rw))] (some (.int (F_X5_keys pn kd bd yr rc rp rw w))) := by
  refine zR_of (nL := 7) (cc := cX5_keys) (ret := some .int) (lv := [(0, .ref h5), (1, .int w)]) (by decide +kernel) rfl (Nat.le_of_ble_eq_true rfl) rfl (fun p e s m args below meth c C hr hlk => ?_)
  have hf := F_X5_keys.eq_1 pn kd bd yr rc rp rw w
  refine z_aload_n C dX5_keys_0 rfl 0 rfl ?_
  refine z_cVR (As := []) C (c_X5_hasWell l D cI cO h5 ash tr ft h4 a1 a2 a3 pn sl dr nw h2 h0 h1) (cwV 0 C.2.2.2.2.1 gX5_keys_X5_hasWell rfl rfl rfl hdV_X5_hasWell ⟨Nat.le_of_ble_eq_true rfl, Nat.le_of_ble_eq_true rfl⟩) [0, 1] rfl rfl 0 rfl rfl rfl _ rfl (Nat.le_of_ble_eq_true rfl) ⟨Nat.zero_le _, Nat.zero_le _⟩ dX5_keys_1 ?_
  generalize hu1 : (F_X5_hasWell pn) = u1 at hf ⊢
  refine z_if_ne (tgt := 10) C dX5_keys_4 (by decide) (fun c4 => ?_) (fun c4 => ?_)
  · rw [if_neg c4] at hf
    have b4 := c4
    rw [← hu1] at c4
    refine z_iload_n C dX5_keys_10 rfl 1 rfl ?_
    refine z_if_lt (tgt := 19) C dX5_keys_11 (by decide) (fun c11 => ?_) (fun c11 => ?_)
    · rw [if_pos c11] at hf
      refine z_bipush (v := (-2 : Int32)) C dX5_keys_19 (by decide) ?_
      exact z_iretR C hr hlk (by rw [hf]) dX5_keys_21
    · rw [if_neg c11] at hf
      refine z_iload_n C dX5_keys_14 rfl 1 rfl ?_
      refine z_iconst (v := (2 : Int32)) C dX5_keys_15 (by decide) ?_
      refine z_icmp_le (tgt := 22) C dX5_keys_16 (by decide) (fun c16 => ?_) (fun c16 => ?_)
      · rw [if_pos c16] at hf
        refine z_iconst (v := (0 : Int32)) C dX5_keys_22 (by decide) ?_
        refine z_istore_n C [(0, .ref h5), (1, .int w), (2, .int (0 : Int32))] dX5_keys_23 rfl (by decide) [1, 2, 0] rfl ?_
        refine z_bipush (v := (-9 : Int32)) C dX5_keys_24 (by decide) ?_
        refine z_istore_n C [(0, .ref h5), (1, .int w), (2, .int (0 : Int32)), (3, .int (-9 : Int32))] dX5_keys_26 rfl (by decide) [1, 2, 3, 0] rfl ?_
        refine z_bipush (v := (-9 : Int32)) C dX5_keys_27 (by decide) ?_
        refine z_istore C [(0, .ref h5), (1, .int w), (2, .int (0 : Int32)), (3, .int (-9 : Int32)), (4, .int (-9 : Int32))] dX5_keys_29 (by decide) [1, 2, 3, 4, 0] rfl ?_
        refine z_iconst (v := (1 : Int32)) C dX5_keys_31 (by decide) ?_
        refine z_istore C [(0, .ref h5), (1, .int w), (2, .int (0 : Int32)), (3, .int (-9 : Int32)), (4, .int (-9 : Int32)), (5, .int (1 : Int32))] dX5_keys_32 (by decide) [1, 2, 3, 4, 5, 0] rfl ?_
        have X34 : ∀ (x2_34 : Int32) (x3_34 : Int32) (x4_34 : Int32) (x5_34 : Int32), F_X5_keys pn kd bd yr rc rp rw w = (F_X5_keys_k34 w) x2_34 x3_34 x4_34 x5_34 → zG p l e ({ frames := 3, cells := 0, slots := 0, locals := 67 } : Room) s m args below meth c D (fun _ => True) (zXr s) 7 0 0 (MQ below (zQr (some (.int (F_X5_keys pn kd bd yr rc rp rw w)))) args s 0 0 (fun _ => False)) 104 [(0, .ref h5), (1, .int w), (2, .int x2_34), (3, .int x3_34), (4, .int x4_34), (5, .int x5_34)] [] [(h5, .inr (5, [.ref h4, .ref h2, .ref h0, .ref h1, .ref ash, .int tr, .int ft])), (h4, .inr (4, [.ref a1, .ref a2, .ref a3, .int pn, .int sl, .int dr, .int nw])), (a1, .inl (cI, 9, .inl kd)), (a2, .inl (cI, 9, .inl bd)), (a3, .inl (cI, 9, .inl yr)), (h2, .inr (2, [.ref e1, .ref e2, .int rc])), (e1, .inl (cI, 8, .inl rp)), (e2, .inl (cI, 8, .inl rw))] := by
          intro x2_34 x3_34 x4_34 x5_34 hf
          rw [F_X5_keys_k34] at hf
          skip
          refine z_iload_n C dX5_keys_104 rfl 1 rfl ?_
          refine z_if_ne (tgt := 110) C dX5_keys_105 (by decide) (fun c105 => ?_) (fun c105 => ?_)
          · rw [if_neg c105] at hf
            refine z_iload_n C dX5_keys_110 rfl 1 rfl ?_
            refine z_iconst (v := (1 : Int32)) C dX5_keys_111 (by decide) ?_
            refine z_icmp_ne (tgt := 119) C dX5_keys_112 (by decide) (fun c112 => ?_) (fun c112 => ?_)
            · rw [if_neg c112] at hf
              refine z_iload C dX5_keys_119 4 rfl ?_
              exact z_iretR C hr hlk (by rw [hf]) dX5_keys_121
            · rw [if_pos c112] at hf
              refine z_iload_n C dX5_keys_115 rfl 3 rfl ?_
              refine z_goto (tgt := 121) C dX5_keys_116 (by decide) ?_
              exact z_iretR C hr hlk (by rw [hf]) dX5_keys_121
          · rw [if_pos c105] at hf
            refine z_iload_n C dX5_keys_108 rfl 2 rfl ?_
            exact z_iretR C hr hlk (by rw [hf]) dX5_keys_109
        have L34 : ∀ (d34 : Nat) (j : Nat) (x2_34 : Int32) (x3_34 : Int32) (x4_34 : Int32) (x5_34 : Int32) (e5 : x5_34 = nI j) (hj5 : j ≤ 6) (hd5 : 6 < j + d34), F_X5_keys pn kd bd yr rc rp rw w = F_X5_keys_l34 pn kd bd yr rc rp rw (F_X5_keys_k34 w) d34 x2_34 x3_34 x4_34 x5_34 → zG p l e ({ frames := 3, cells := 0, slots := 0, locals := 67 } : Room) s m args below meth c D (fun _ => True) (zXr s) 7 0 0 (MQ below (zQr (some (.int (F_X5_keys pn kd bd yr rc rp rw w)))) args s 0 0 (fun _ => False)) 34 [(0, .ref h5), (1, .int w), (2, .int x2_34), (3, .int x3_34), (4, .int x4_34), (5, .int x5_34)] [] [(h5, .inr (5, [.ref h4, .ref h2, .ref h0, .ref h1, .ref ash, .int tr, .int ft])), (h4, .inr (4, [.ref a1, .ref a2, .ref a3, .int pn, .int sl, .int dr, .int nw])), (a1, .inl (cI, 9, .inl kd)), (a2, .inl (cI, 9, .inl bd)), (a3, .inl (cI, 9, .inl yr)), (h2, .inr (2, [.ref e1, .ref e2, .int rc])), (e1, .inl (cI, 8, .inl rp)), (e2, .inl (cI, 8, .inl rw))] := by
          intro d34
          induction d34 with
          | zero =>
            intro j x2_34 x3_34 x4_34 x5_34 e5 hj5 hd5 hf
            exfalso; omega
          | succ d34 ih34 =>
            intro j x2_34 x3_34 x4_34 x5_34 e5 hj5 hd5 hf
            rw [F_X5_keys_l34] at hf
            skip
            refine z_iload C dX5_keys_34 5 rfl ?_
            refine z_iconst (v := (5 : Int32)) C dX5_keys_36 (by decide) ?_
            refine z_icmp_gt (tgt := 104) C dX5_keys_37 (by decide) (fun c37 => ?_) (fun c37 => ?_)
            · rw [if_pos c37] at hf
              exact X34 x2_34 x3_34 x4_34 x5_34  hf
            · rw [if_neg c37] at hf
              refine z_iconst (v := (0 : Int32)) C dX5_keys_40 (by decide) ?_
              refine z_istore C [(0, .ref h5), (1, .int w), (2, .int x2_34), (3, .int x3_34), (4, .int x4_34), (5, .int x5_34), (6, .int (0 : Int32))] dX5_keys_41 (by decide) [1, 2, 3, 4, 5, 6, 0] rfl ?_
              have X43 : ∀ (x2_43 : Int32) (x3_43 : Int32) (x4_43 : Int32) (x6_43 : Int32), F_X5_keys pn kd bd yr rc rp rw w = (F_X5_keys_k43 (fun x2_34_r x3_34_r x4_34_r x5_34_r => F_X5_keys_l34 pn kd bd yr rc rp rw (F_X5_keys_k34 w) d34 x2_34_r x3_34_r x4_34_r x5_34_r) x5_34) x2_43 x3_43 x4_43 x6_43 → zG p l e ({ frames := 3, cells := 0, slots := 0, locals := 67 } : Room) s m args below meth c D (fun _ => True) (zXr s) 7 0 0 (MQ below (zQr (some (.int (F_X5_keys pn kd bd yr rc rp rw w)))) args s 0 0 (fun _ => False)) 98 [(0, .ref h5), (1, .int w), (2, .int x2_43), (3, .int x3_43), (4, .int x4_43), (5, .int x5_34), (6, .int x6_43)] [] [(h5, .inr (5, [.ref h4, .ref h2, .ref h0, .ref h1, .ref ash, .int tr, .int ft])), (h4, .inr (4, [.ref a1, .ref a2, .ref a3, .int pn, .int sl, .int dr, .int nw])), (a1, .inl (cI, 9, .inl kd)), (a2, .inl (cI, 9, .inl bd)), (a3, .inl (cI, 9, .inl yr)), (h2, .inr (2, [.ref e1, .ref e2, .int rc])), (e1, .inl (cI, 8, .inl rp)), (e2, .inl (cI, 8, .inl rw))] := by
                intro x2_43 x3_43 x4_43 x6_43 hf
                rw [F_X5_keys_k43] at hf
                skip
                refine z_iinc (v := (x5_34 + (1 : Int32))) C [(0, .ref h5), (1, .int w), (2, .int x2_43), (3, .int x3_43), (4, .int x4_43), (5, .int (x5_34 + (1 : Int32))), (6, .int x6_43)] dX5_keys_98 5 rfl (by rfl) (by decide) [1, 2, 3, 4, 5, 0, 6] rfl ?_
                refine z_goto (tgt := 34) C dX5_keys_101 (by decide) ?_
                refine z_ls [(0, .ref h5), (1, .int w), (2, .int x2_43), (3, .int x3_43), (4, .int x4_43), (5, .int (x5_34 + (1 : Int32)))] [0, 1, 2, 3, 4, 5] rfl ?_
                exact ih34 (j + 1) x2_43 x3_43 x4_43 (x5_34 + (1 : Int32)) (by subst hu1; exact (by rw [e5]; exact nI_1 j)) (by subst hu1; exact (by have := z_jle (n := 5) e5 (by omega) (by decide) c37; omega)) (by omega) hf
              have L43 : ∀ (d43 : Nat) (i : Nat) (x2_43 : Int32) (x3_43 : Int32) (x4_43 : Int32) (x6_43 : Int32) (e6 : x6_43 = nI i) (hj6 : i ≤ 6) (hd6 : 6 < i + d43), F_X5_keys pn kd bd yr rc rp rw w = F_X5_keys_l43 pn kd bd yr rc rp rw x5_34 (F_X5_keys_k43 (fun x2_34_r x3_34_r x4_34_r x5_34_r => F_X5_keys_l34 pn kd bd yr rc rp rw (F_X5_keys_k34 w) d34 x2_34_r x3_34_r x4_34_r x5_34_r) x5_34) d43 x2_43 x3_43 x4_43 x6_43 → zG p l e ({ frames := 3, cells := 0, slots := 0, locals := 67 } : Room) s m args below meth c D (fun _ => True) (zXr s) 7 0 0 (MQ below (zQr (some (.int (F_X5_keys pn kd bd yr rc rp rw w)))) args s 0 0 (fun _ => False)) 43 [(0, .ref h5), (1, .int w), (2, .int x2_43), (3, .int x3_43), (4, .int x4_43), (5, .int x5_34), (6, .int x6_43)] [] [(h5, .inr (5, [.ref h4, .ref h2, .ref h0, .ref h1, .ref ash, .int tr, .int ft])), (h4, .inr (4, [.ref a1, .ref a2, .ref a3, .int pn, .int sl, .int dr, .int nw])), (a1, .inl (cI, 9, .inl kd)), (a2, .inl (cI, 9, .inl bd)), (a3, .inl (cI, 9, .inl yr)), (h2, .inr (2, [.ref e1, .ref e2, .int rc])), (e1, .inl (cI, 8, .inl rp)), (e2, .inl (cI, 8, .inl rw))] := by
                intro d43
                induction d43 with
                | zero =>
                  intro i x2_43 x3_43 x4_43 x6_43 e6 hj6 hd6 hf
                  exfalso; omega
                | succ d43 ih43 =>
                  intro i x2_43 x3_43 x4_43 x6_43 e6 hj6 hd6 hf
                  rw [F_X5_keys_l43] at hf
                  skip
                  refine z_iload C dX5_keys_43 6 rfl ?_
                  refine z_iconst (v := (5 : Int32)) C dX5_keys_45 (by decide) ?_
                  refine z_icmp_gt (tgt := 98) C dX5_keys_46 (by decide) (fun c46 => ?_) (fun c46 => ?_)
                  · rw [if_pos c46] at hf
                    exact X43 x2_43 x3_43 x4_43 x6_43  hf
                  · rw [if_neg c46] at hf
                    refine z_aload_n C dX5_keys_49 rfl 0 rfl ?_
                    refine z_get (T := TX5) (v := .ref h2) C i_X5_keys_5 0 rfl rfl 1 (by decide) m_X5_keys_1 rfl rfl dX5_keys_50 ?_
                    refine z_aload_n C dX5_keys_53 rfl 0 rfl ?_
                    refine z_get (T := TX5) (v := .ref h4) C i_X5_keys_5 0 rfl rfl 0 (by decide) m_X5_keys_2 rfl rfl dX5_keys_54 ?_
                    refine z_iload C dX5_keys_57 5 rfl ?_
                    refine z_iload C dX5_keys_59 6 rfl ?_
                    refine z_cVR (As := [.ref h4, .int x5_34, .int x6_43]) C (c_X2_areSoByKey l D cI cO h2 e1 e2 rc rp rw h4 a1 a2 a3 pn sl dr nw kd bd yr x5_34 x6_43) (cwV 3 C.2.2.2.2.1 gX5_keys_X2_areSoByKey rfl rfl rfl hdV_X2_areSoByKey ⟨Nat.le_of_ble_eq_true rfl, Nat.le_of_ble_eq_true rfl⟩) [5, 6, 7, 1, 2, 3, 4] rfl rfl 5 rfl rfl rfl _ rfl (Nat.le_of_ble_eq_true rfl) ⟨Nat.zero_le _, Nat.zero_le _⟩ dX5_keys_61 ?_
                    generalize hu61 : (F_X2_areSoByKey rc rp rw pn kd bd yr x5_34 x6_43) = u61 at hf ⊢
                    refine z_if_eq (tgt := 92) C dX5_keys_64 (by decide) (fun c64 => ?_) (fun c64 => ?_)
                    · rw [if_pos c64] at hf
                      have b64 := c64
                      rw [← hu61] at c64
                      refine z_iinc (v := (x6_43 + (1 : Int32))) C [(0, .ref h5), (1, .int w), (2, .int x2_43), (3, .int x3_43), (4, .int x4_43), (5, .int x5_34), (6, .int (x6_43 + (1 : Int32)))] dX5_keys_92 6 rfl (by rfl) (by decide) [1, 2, 3, 4, 5, 6, 0] rfl ?_
                      refine z_goto (tgt := 43) C dX5_keys_95 (by decide) ?_
                      exact ih43 (i + 1) x2_43 x3_43 x4_43 (x6_43 + (1 : Int32)) (by subst hu61 hu1; exact (by rw [e6]; exact nI_1 i)) (by subst hu61 hu1; exact (by have := z_jle (n := 5) e6 (by omega) (by decide) c46; omega)) (by omega) hf
                    · rw [if_neg c64] at hf
                      have b64 := c64
                      rw [← hu61] at c64
                      refine z_iinc (v := (x2_43 + (1 : Int32))) C [(0, .ref h5), (1, .int w), (2, .int (x2_43 + (1 : Int32))), (3, .int x3_43), (4, .int x4_43), (5, .int x5_34), (6, .int x6_43)] dX5_keys_67 2 rfl (by rfl) (by decide) [1, 2, 0, 3, 4, 5, 6] rfl ?_
                      refine z_iload C dX5_keys_70 5 rfl ?_
                      refine z_iload C dX5_keys_72 6 rfl ?_
                      refine z_cSR (As := [.int x5_34, .int x6_43]) C (c_X5_keyNumber l D cI cO x5_34 x6_43) (va_cwS 2 C.2.2.2.2.1 gX5_keys_X5_keyNumber rfl rfl rfl hdS_X5_keyNumber ⟨Nat.le_of_ble_eq_true rfl, Nat.le_of_ble_eq_true rfl⟩) [] rfl rfl rfl _ rfl (Nat.le_of_ble_eq_true rfl) ⟨Nat.zero_le _, Nat.zero_le _⟩ dX5_keys_74 ?_
                      generalize hu74 : (F_X5_keyNumber x5_34 x6_43) = u74 at hf ⊢
                      refine z_istore C [(0, .ref h5), (1, .int w), (2, .int (x2_43 + (1 : Int32))), (3, .int x3_43), (4, .int u74), (5, .int x5_34), (6, .int x6_43)] dX5_keys_77 (by decide) [1, 2, 3, 4, 0, 5, 6] rfl ?_
                      refine z_iload_n C dX5_keys_79 rfl 3 rfl ?_
                      refine z_bipush (v := (-9 : Int32)) C dX5_keys_80 (by decide) ?_
                      refine z_icmp_ne (tgt := 90) C dX5_keys_82 (by decide) (fun c82 => ?_) (fun c82 => ?_)
                      · rw [if_neg c82] at hf
                        refine z_iload_n C dX5_keys_90 rfl 3 rfl ?_
                        refine z_istore_n C [(0, .ref h5), (1, .int w), (2, .int (x2_43 + (1 : Int32))), (3, .int x3_43), (4, .int u74), (5, .int x5_34), (6, .int x6_43)] dX5_keys_91 rfl (by decide) [1, 2, 3, 0, 4, 5, 6] rfl ?_
                        refine z_iinc (v := (x6_43 + (1 : Int32))) C [(0, .ref h5), (1, .int w), (2, .int (x2_43 + (1 : Int32))), (3, .int x3_43), (4, .int u74), (5, .int x5_34), (6, .int (x6_43 + (1 : Int32)))] dX5_keys_92 6 rfl (by rfl) (by decide) [1, 2, 3, 4, 5, 6, 0] rfl ?_
                        refine z_goto (tgt := 43) C dX5_keys_95 (by decide) ?_
                        exact ih43 (i + 1) (x2_43 + (1 : Int32)) x3_43 u74 (x6_43 + (1 : Int32)) (by subst hu74 hu61 hu1; exact (by rw [e6]; exact nI_1 i)) (by subst hu74 hu61 hu1; exact (by have := z_jle (n := 5) e6 (by omega) (by decide) c46; omega)) (by omega) hf
                      · rw [if_pos c82] at hf
                        refine z_iload C dX5_keys_85 4 rfl ?_
                        refine z_goto (tgt := 91) C dX5_keys_87 (by decide) ?_
                        refine z_istore_n C [(0, .ref h5), (1, .int w), (2, .int (x2_43 + (1 : Int32))), (3, .int u74), (4, .int u74), (5, .int x5_34), (6, .int x6_43)] dX5_keys_91 rfl (by decide) [1, 2, 3, 0, 4, 5, 6] rfl ?_
                        refine z_iinc (v := (x6_43 + (1 : Int32))) C [(0, .ref h5), (1, .int w), (2, .int (x2_43 + (1 : Int32))), (3, .int u74), (4, .int u74), (5, .int x5_34), (6, .int (x6_43 + (1 : Int32)))] dX5_keys_92 6 rfl (by rfl) (by decide) [1, 2, 3, 4, 5, 6, 0] rfl ?_
                        refine z_goto (tgt := 43) C dX5_keys_95 (by decide) ?_
                        exact ih43 (i + 1) (x2_43 + (1 : Int32)) u74 u74 (x6_43 + (1 : Int32)) (by subst hu74 hu61 hu1; exact (by rw [e6]; exact nI_1 i)) (by subst hu74 hu61 hu1; exact (by have := z_jle (n := 5) e6 (by omega) (by decide) c46; omega)) (by omega) hf
              exact L43 7 0 x2_34 x3_34 x4_34 (0 : Int32) (by subst hu1; exact nI_0.symm) (by omega) (by omega) hf
        exact L34 6 1 (0 : Int32) (-9 : Int32) (-9 : Int32) (1 : Int32) (by subst hu1; exact (by rfl)) (by omega) (by omega) hf
      · rw [if_neg c16] at hf
        refine z_bipush (v := (-2 : Int32)) C dX5_keys_19 (by decide) ?_
        exact z_iretR C hr hlk (by rw [hf]) dX5_keys_21
  · rw [if_pos c4] at hf
    have b4 := c4
    rw [← hu1] at c4
    refine z_bipush (v := (-3 : Int32)) C dX5_keys_7 (by decide) ?_
    exact z_iretR C hr hlk (by rw [hf]) dX5_keys_9
theorem gs_l2 {a : Int32} {K : Int32 → Int32} (hK : ∀ x, ¬ K x = 0) : ∀ (d : Nat) (x : Int32), ¬ F_X5_greatestShared_l2 a K d x = 0 := by
  intro d
  induction d with
  | zero => intro x; rw [F_X5_greatestShared_l2]; exact hK x
  | succ d ih =>
    intro x
    rw [F_X5_greatestShared_l2]
    split
    · exact hK x
    · rename_i c
      split
      · split
        · exact z_ne0 c
        · exact ih _
      · exact ih _
theorem gs_ne (a : Int32) : ¬ F_X5_greatestShared a = 0 := by
  rw [F_X5_greatestShared]; exact gs_l2 (fun x => by rw [F_X5_greatestShared_k2]; decide) _ _
-- X5_odds
theorem m_X5_odds_1 : Cond.constantLong RX5 182 (-9223372036854775808) ∈ wsX5_odds := List.mem_of_getElem? (i := 1) rfl
theorem i_X5_odds_5 : ∀ w ∈ u_ws RX5 TX5 7, w ∈ wsX5_odds := by decide +kernel
theorem m_X5_odds_2 : Cond.fieldLink RX5 12 "WishPins" "lying" "LWishPins$Well;" ∈ wsX5_odds := List.mem_of_getElem? (i := 2) rfl
def F_X5_odds_k40 (w : Int32) (x4_40 : Int32) (x5_40 : Int32) : Int64 :=
  (if w = 0 then (x4_40 / (F_X5_greatestShared x4_40)).toInt64 else ((10 : Int32) / (F_X5_greatestShared x4_40)).toInt64)
def F_X5_odds_l40 (sl : Int32) (dr : Int32) (nw : Int32) (k : Int32) (v : Int32) (K_ : Int32 → Int32 → Int64) : Nat → Int32 → Int32 → Int64
  | 0, x4_40, x5_40 => K_ x4_40 x5_40
  | d40 + 1, x4_40, x5_40 => (if (10 : Int32) ≤ x5_40 then (K_ x4_40 x5_40) else (if (F_X4_wishNow sl dr nw k x5_40) = v then (F_X5_odds_l40 sl dr nw k v K_ d40 (x4_40 + (1 : Int32)) (x5_40 + (1 : Int32))) else (F_X5_odds_l40 sl dr nw k v K_ d40 x4_40 (x5_40 + (1 : Int32)))))
def F_X5_odds_j23 (pn : Int32) (sl : Int32) (dr : Int32) (nw : Int32) (k : Int32) (v : Int32) (w : Int32) : Int64 :=
  (if (F_X5_hasWell pn) = 0 then (-9223372036854775808 : Int64) else (F_X5_odds_l40 sl dr nw k v (F_X5_odds_k40 w) 11 (0 : Int32) (0 : Int32)))
def F_X5_odds (pn : Int32) (sl : Int32) (dr : Int32) (nw : Int32) (k : Int32) (v : Int32) (w : Int32) : Int64 :=
  (if (F_X5_isKind k) = 0 then (-9223372036854775808 : Int64) else (if (F_X5_isWish v) = 0 then (-9223372036854775808 : Int64) else (if w = 0 then (F_X5_odds_j23 pn sl dr nw k v w) else (if w = (1 : Int32) then (F_X5_odds_j23 pn sl dr nw k v w) else (-9223372036854775808 : Int64)))))
set_option maxHeartbeats 4000000 in
set_option maxRecDepth 100000 in
theorem c_X5_odds (l : Launch) (D : va_G) (cI cO : ClassId) (h5 : Nat) (ash : Nat) (tr : Int32) (ft : Int32) (h4 : Nat) (a1 : Nat) (a2 : Nat) (a3 : Nat) (pn : Int32) (sl : Int32) (dr : Int32) (nw : Int32) (h2 : Nat) (h0 : Nat) (h1 : Nat) (k : Int32) (v : Int32) (w : Int32) : zR l yX5_odds wsX5_odds ({ frames := 2, cells := 0, slots := 0, locals := 45 } : Room) D cI cO [.ref h5, .int k, .int v, .int w] [(h5, .inr (5, [.ref h4, .ref h2, .ref h0, .ref h1, .ref ash, .int tr, .int ft])), (h4, .inr (4, [.ref a1, .ref a2, .ref a3, .int pn, .int sl, .int dr, .int nw]))] (some (.long (F_X5_odds pn sl dr nw k v w))) := by
  refine zR_of (nL := 6) (cc := cX5_odds) (ret := some .long) (lv := [(0, .ref h5), (1, .int k), (2, .int v), (3, .int w)]) (by decide +kernel) rfl (Nat.le_of_ble_eq_true rfl) rfl (fun p e s m args below meth c C hr hlk => ?_)
  have hf := F_X5_odds.eq_1 pn sl dr nw k v w
  refine z_iload_n C dX5_odds_0 rfl 1 rfl ?_
  refine z_cSR (As := [.int k]) C (c_X5_isKind l D cI cO k) (va_cwS 1 C.2.2.2.2.1 gX5_odds_X5_isKind rfl rfl rfl hdS_X5_isKind ⟨Nat.le_of_ble_eq_true rfl, Nat.le_of_ble_eq_true rfl⟩) [] rfl rfl rfl _ rfl (Nat.le_of_ble_eq_true rfl) ⟨Nat.zero_le _, Nat.zero_le _⟩ dX5_odds_1 ?_
  generalize hu1 : (F_X5_isKind k) = u1 at hf ⊢
  refine z_if_eq (tgt := 30) C dX5_odds_4 (by decide) (fun c4 => ?_) (fun c4 => ?_)
  · rw [if_pos c4] at hf
    have b4 := c4
    rw [← hu1] at c4
    refine z_ldc2 C m_X5_odds_1 dX5_odds_30 ?_
    exact z_lretR C hr hlk (by rw [hf]) dX5_odds_33
  · rw [if_neg c4] at hf
    have b4 := c4
    rw [← hu1] at c4
    refine z_iload_n C dX5_odds_7 rfl 2 rfl ?_
    refine z_cSR (As := [.int v]) C (c_X5_isWish l D cI cO v) (va_cwS 1 C.2.2.2.2.1 gX5_odds_X5_isWish rfl rfl rfl hdS_X5_isWish ⟨Nat.le_of_ble_eq_true rfl, Nat.le_of_ble_eq_true rfl⟩) [] rfl rfl rfl _ rfl (Nat.le_of_ble_eq_true rfl) ⟨Nat.zero_le _, Nat.zero_le _⟩ dX5_odds_8 ?_
    generalize hu8 : (F_X5_isWish v) = u8 at hf ⊢
    refine z_if_eq (tgt := 30) C dX5_odds_11 (by decide) (fun c11 => ?_) (fun c11 => ?_)
    · rw [if_pos c11] at hf
      have b11 := c11
      rw [← hu8] at c11
      refine z_ldc2 C m_X5_odds_1 dX5_odds_30 ?_
      exact z_lretR C hr hlk (by rw [hf]) dX5_odds_33
    · rw [if_neg c11] at hf
      have b11 := c11
      rw [← hu8] at c11
      refine z_iload_n C dX5_odds_14 rfl 3 rfl ?_
      have J23 : F_X5_odds pn sl dr nw k v w = F_X5_odds_j23 pn sl dr nw k v w → zG p l e ({ frames := 2, cells := 0, slots := 0, locals := 45 } : Room) s m args below meth c D (fun _ => True) (zXr s) 6 0 0 (MQ below (zQr (some (.long (F_X5_odds pn sl dr nw k v w)))) args s 0 0 (fun _ => False)) 23 [(0, .ref h5), (1, .int k), (2, .int v), (3, .int w)] [] [(h5, .inr (5, [.ref h4, .ref h2, .ref h0, .ref h1, .ref ash, .int tr, .int ft])), (h4, .inr (4, [.ref a1, .ref a2, .ref a3, .int pn, .int sl, .int dr, .int nw]))] := by
        intro hf
        rw [F_X5_odds_j23] at hf
        skip
        refine z_aload_n C dX5_odds_23 rfl 0 rfl ?_
        refine z_cVR (As := []) C (c_X5_hasWell l D cI cO h5 ash tr ft h4 a1 a2 a3 pn sl dr nw h2 h0 h1) (cwV 0 C.2.2.2.2.1 gX5_odds_X5_hasWell rfl rfl rfl hdV_X5_hasWell ⟨Nat.le_of_ble_eq_true rfl, Nat.le_of_ble_eq_true rfl⟩) [0, 1] rfl rfl 0 rfl rfl rfl _ rfl (Nat.le_of_ble_eq_true rfl) ⟨Nat.zero_le _, Nat.zero_le _⟩ dX5_odds_24 ?_
        generalize hu24 : (F_X5_hasWell pn) = u24 at hf ⊢
        refine z_if_ne (tgt := 34) C dX5_odds_27 (by decide) (fun c27 => ?_) (fun c27 => ?_)
        · rw [if_neg c27] at hf
          have b27 := c27
          rw [← hu24] at c27
          refine z_iconst (v := (0 : Int32)) C dX5_odds_34 (by decide) ?_
          refine z_istore C [(0, .ref h5), (1, .int k), (2, .int v), (3, .int w), (4, .int (0 : Int32))] dX5_odds_35 (by decide) [1, 2, 3, 4, 0] rfl ?_
          refine z_iconst (v := (0 : Int32)) C dX5_odds_37 (by decide) ?_
          refine z_istore C [(0, .ref h5), (1, .int k), (2, .int v), (3, .int w), (4, .int (0 : Int32)), (5, .int (0 : Int32))] dX5_odds_38 (by decide) [1, 2, 3, 4, 5, 0] rfl ?_
          have X40 : ∀ (x4_40 : Int32) (x5_40 : Int32), F_X5_odds pn sl dr nw k v w = (F_X5_odds_k40 w) x4_40 x5_40 → zG p l e ({ frames := 2, cells := 0, slots := 0, locals := 45 } : Room) s m args below meth c D (fun _ => True) (zXr s) 6 0 0 (MQ below (zQr (some (.long (F_X5_odds pn sl dr nw k v w)))) args s 0 0 (fun _ => False)) 70 [(0, .ref h5), (1, .int k), (2, .int v), (3, .int w), (4, .int x4_40), (5, .int x5_40)] [] [(h5, .inr (5, [.ref h4, .ref h2, .ref h0, .ref h1, .ref ash, .int tr, .int ft])), (h4, .inr (4, [.ref a1, .ref a2, .ref a3, .int pn, .int sl, .int dr, .int nw]))] := by
            intro x4_40 x5_40 hf
            rw [F_X5_odds_k40] at hf
            skip
            refine z_iload C dX5_odds_70 4 rfl ?_
            refine z_bipush (v := (10 : Int32)) C dX5_odds_72 (by decide) ?_
            refine z_cSR (As := [.int x4_40, .int (10 : Int32)]) C (c_X5_greatestShared l D cI cO x4_40) (va_cwS 2 C.2.2.2.2.1 gX5_odds_X5_greatestShared rfl rfl rfl hdS_X5_greatestShared ⟨Nat.le_of_ble_eq_true rfl, Nat.le_of_ble_eq_true rfl⟩) [] rfl rfl rfl _ rfl (Nat.le_of_ble_eq_true rfl) ⟨Nat.zero_le _, Nat.zero_le _⟩ dX5_odds_74 ?_
            generalize hu74 : (F_X5_greatestShared x4_40) = u74 at hf ⊢
            refine z_istore C [(0, .ref h5), (1, .int k), (2, .int v), (3, .int w), (4, .int x4_40), (5, .int u74)] dX5_odds_77 (by decide) [1, 2, 3, 4, 5, 0] rfl ?_
            refine z_iload_n C dX5_odds_79 rfl 3 rfl ?_
            refine z_if_ne (tgt := 92) C dX5_odds_80 (by decide) (fun c80 => ?_) (fun c80 => ?_)
            · rw [if_neg c80] at hf
              refine z_bipush (v := (10 : Int32)) C dX5_odds_92 (by decide) ?_
              refine z_iload C dX5_odds_94 5 rfl ?_
              refine z_idiv C dX5_odds_96 (by subst hu74 hu24 hu8 hu1; exact (gs_ne _)) ?_
              refine z_i2l C dX5_odds_97 ?_
              exact z_lretR C hr hlk (by rw [hf]) dX5_odds_98
            · rw [if_pos c80] at hf
              refine z_iload C dX5_odds_83 4 rfl ?_
              refine z_iload C dX5_odds_85 5 rfl ?_
              refine z_idiv C dX5_odds_87 (by subst hu74 hu24 hu8 hu1; exact (gs_ne _)) ?_
              refine z_i2l C dX5_odds_88 ?_
              refine z_goto (tgt := 98) C dX5_odds_89 (by decide) ?_
              exact z_lretR C hr hlk (by rw [hf]) dX5_odds_98
          have L40 : ∀ (d40 : Nat) (j : Nat) (x4_40 : Int32) (x5_40 : Int32) (e5 : x5_40 = nI j) (hj : j ≤ 10) (hd : 10 < j + d40), F_X5_odds pn sl dr nw k v w = F_X5_odds_l40 sl dr nw k v (F_X5_odds_k40 w) d40 x4_40 x5_40 → zG p l e ({ frames := 2, cells := 0, slots := 0, locals := 45 } : Room) s m args below meth c D (fun _ => True) (zXr s) 6 0 0 (MQ below (zQr (some (.long (F_X5_odds pn sl dr nw k v w)))) args s 0 0 (fun _ => False)) 40 [(0, .ref h5), (1, .int k), (2, .int v), (3, .int w), (4, .int x4_40), (5, .int x5_40)] [] [(h5, .inr (5, [.ref h4, .ref h2, .ref h0, .ref h1, .ref ash, .int tr, .int ft])), (h4, .inr (4, [.ref a1, .ref a2, .ref a3, .int pn, .int sl, .int dr, .int nw]))] := by
            intro d40
            induction d40 with
            | zero =>
              intro j x4_40 x5_40 e5 hj hd hf
              exfalso; omega
            | succ d40 ih40 =>
              intro j x4_40 x5_40 e5 hj hd hf
              rw [F_X5_odds_l40] at hf
              skip
              refine z_iload C dX5_odds_40 5 rfl ?_
              refine z_bipush (v := (10 : Int32)) C dX5_odds_42 (by decide) ?_
              refine z_icmp_ge (tgt := 70) C dX5_odds_44 (by decide) (fun c44 => ?_) (fun c44 => ?_)
              · rw [if_pos c44] at hf
                exact X40 x4_40 x5_40  hf
              · rw [if_neg c44] at hf
                refine z_aload_n C dX5_odds_47 rfl 0 rfl ?_
                refine z_get (T := TX5) (v := .ref h4) C i_X5_odds_5 0 rfl rfl 0 (by decide) m_X5_odds_2 rfl rfl dX5_odds_48 ?_
                refine z_iload_n C dX5_odds_51 rfl 1 rfl ?_
                refine z_iload C dX5_odds_52 5 rfl ?_
                refine z_cVR (As := [.int k, .int x5_40]) C (c_X4_wishNow l D cI cO h4 a1 a2 a3 pn sl dr nw k x5_40) (cwV 2 C.2.2.2.2.1 gX5_odds_X4_wishNow rfl rfl rfl hdV_X4_wishNow ⟨Nat.le_of_ble_eq_true rfl, Nat.le_of_ble_eq_true rfl⟩) [1] rfl rfl 1 rfl rfl rfl _ rfl (Nat.le_of_ble_eq_true rfl) ⟨Nat.zero_le _, Nat.zero_le _⟩ dX5_odds_54 ?_
                generalize hu54 : (F_X4_wishNow sl dr nw k x5_40) = u54 at hf ⊢
                refine z_iload_n C dX5_odds_57 rfl 2 rfl ?_
                refine z_icmp_ne (tgt := 64) C dX5_odds_58 (by decide) (fun c58 => ?_) (fun c58 => ?_)
                · rw [if_neg c58] at hf
                  have b58 := c58
                  rw [← hu54] at c58
                  refine z_iinc (v := (x5_40 + (1 : Int32))) C [(0, .ref h5), (1, .int k), (2, .int v), (3, .int w), (4, .int x4_40), (5, .int (x5_40 + (1 : Int32)))] dX5_odds_64 5 rfl (by rfl) (by decide) [1, 2, 3, 4, 5, 0] rfl ?_
                  refine z_goto (tgt := 40) C dX5_odds_67 (by decide) ?_
                  exact ih40 (j + 1) x4_40 (x5_40 + (1 : Int32)) (by subst hu54 hu24 hu8 hu1; exact (by rw [e5]; exact nI_1 j)) (by subst hu54 hu24 hu8 hu1; exact (by have := z_jlt (n := 10) e5 (by omega) (by decide) c44; omega)) (by omega) hf
                · rw [if_pos c58] at hf
                  have b58 := c58
                  rw [← hu54] at c58
                  refine z_iinc (v := (x4_40 + (1 : Int32))) C [(0, .ref h5), (1, .int k), (2, .int v), (3, .int w), (4, .int (x4_40 + (1 : Int32))), (5, .int x5_40)] dX5_odds_61 4 rfl (by rfl) (by decide) [1, 2, 3, 4, 0, 5] rfl ?_
                  refine z_iinc (v := (x5_40 + (1 : Int32))) C [(0, .ref h5), (1, .int k), (2, .int v), (3, .int w), (4, .int (x4_40 + (1 : Int32))), (5, .int (x5_40 + (1 : Int32)))] dX5_odds_64 5 rfl (by rfl) (by decide) [1, 2, 3, 4, 5, 0] rfl ?_
                  refine z_goto (tgt := 40) C dX5_odds_67 (by decide) ?_
                  exact ih40 (j + 1) (x4_40 + (1 : Int32)) (x5_40 + (1 : Int32)) (by subst hu54 hu24 hu8 hu1; exact (by rw [e5]; exact nI_1 j)) (by subst hu54 hu24 hu8 hu1; exact (by have := z_jlt (n := 10) e5 (by omega) (by decide) c44; omega)) (by omega) hf
          exact L40 11 0 (0 : Int32) (0 : Int32) (by subst hu24 hu8 hu1; exact nI_0.symm) (by subst hu24 hu8 hu1; exact (Nat.zero_le _)) (by omega) hf
        · rw [if_pos c27] at hf
          have b27 := c27
          rw [← hu24] at c27
          refine z_ldc2 C m_X5_odds_1 dX5_odds_30 ?_
          exact z_lretR C hr hlk (by rw [hf]) dX5_odds_33
      refine z_if_eq (tgt := 23) C dX5_odds_15 (by decide) (fun c15 => ?_) (fun c15 => ?_)
      · rw [if_pos c15] at hf
        exact J23   hf
      · rw [if_neg c15] at hf
        refine z_iload_n C dX5_odds_18 rfl 3 rfl ?_
        refine z_iconst (v := (1 : Int32)) C dX5_odds_19 (by decide) ?_
        refine z_icmp_ne (tgt := 30) C dX5_odds_20 (by decide) (fun c20 => ?_) (fun c20 => ?_)
        · rw [if_neg c20] at hf
          refine z_ldc2 C m_X5_odds_1 dX5_odds_30 ?_
          exact z_lretR C hr hlk (by rw [hf]) dX5_odds_33
        · rw [if_pos c20] at hf
          exact J23   hf
theorem hasCells_cp {lg i n : Int32} (hlg : lg ≤ 60) (h : ¬ F_X3_hasCells lg i n = 0) : ¬ i < 0 ∧ ¬ n < 0 ∧ i.toNatClampNeg + n.toNatClampNeg ≤ 60 := by
  obtain ⟨a, b, rfl, rfl, h1, -⟩ := hasCells_in hlg h
  exact ⟨nI_pos (by omega), nI_pos (by omega), by rw [nI_clamp (by omega), nI_clamp (by omega)]; exact h1⟩
-- X5_sheet
theorem i_X5_sheet_5 : ∀ w ∈ u_ws RX5 TX5 7, w ∈ wsX5_sheet := by decide +kernel
theorem m_X5_sheet_1 : Cond.fieldLink RX5 46 "WishPins" "latestFault" "I" ∈ wsX5_sheet := List.mem_of_getElem? (i := 1) rfl
theorem m_X5_sheet_2 : Cond.fieldLink RX5 41 "WishPins" "sheets" "[LWishPins$Sheet;" ∈ wsX5_sheet := List.mem_of_getElem? (i := 2) rfl
def F_X5_sheet (ln : Int32) (lg : Int32) (cl : Nat → Int32) (sk : Int32) (la : Int32) (n : Int32) : Int32 × Int32 × Int32 × Int32 × (Nat → Int32) :=
  (if (F_X5_isSheet sk) = 0 then ((-1 : Int32), (0 : Int32), ln, lg, cl) else (if (F_X5_isLane la) = 0 then ((-2 : Int32), (0 : Int32), ln, lg, cl) else (if n ≤ (60 : Int32) then (if 0 ≤ n then ((1 : Int32), (0 : Int32), (F_X3_begin cl la n).1, (F_X3_begin cl la n).2.1, (F_X3_begin cl la n).2.2) else ((F_X5_failed (4 : Int32)).1, (F_X5_failed (4 : Int32)).2, ln, lg, cl)) else ((-2 : Int32), (0 : Int32), ln, lg, cl))))
set_option maxHeartbeats 4000000 in
set_option maxRecDepth 100000 in
theorem c_X5_sheet (l : Launch) (D : va_G) (cI cO : ClassId) (h5 : Nat) (ash : Nat) (tr : Int32) (ft : Int32) (hq : Nat → Option Nat) (h4 : Nat) (h2 : Nat) (h0 : Nat) (h1 : Nat) (h3 : Nat) (b1 : Nat) (ln : Int32) (lg : Int32) (cl : Nat → Int32) (sk : Int32) (la : Int32) (n : Int32) (hsq : ¬ F_X5_isSheet sk = 0 → hq sk.toNatClampNeg = some h3) : zW l yX5_sheet wsX5_sheet ({ frames := 2, cells := 0, slots := 0, locals := 44 } : Room) D cI cO [.ref h5, .int sk, .int la, .int n] [(h5, .inr (5, [.ref h4, .ref h2, .ref h0, .ref h1, .ref ash, .int tr, .int ft])), (ash, .inl (cO, 4, .inr (.inr (.inr (.inr hq))))), (h3, .inr (3, [.ref b1, .int ln, .int lg])), (b1, .inl (cI, 60, .inl cl))] [(h5, .inr (5, [.ref h4, .ref h2, .ref h0, .ref h1, .ref ash, .int tr, .int ((F_X5_sheet ln lg cl sk la n).2.1)])), (ash, .inl (cO, 4, .inr (.inr (.inr (.inr hq))))), (h3, .inr (3, [.ref b1, .int ((F_X5_sheet ln lg cl sk la n).2.2.1), .int ((F_X5_sheet ln lg cl sk la n).2.2.2.1)])), (b1, .inl (cI, 60, .inl ((F_X5_sheet ln lg cl sk la n).2.2.2.2)))] (some (.int ((F_X5_sheet ln lg cl sk la n).1))) := by
  refine zW_of (nL := 4) (cc := cX5_sheet) (ret := some .int) (lv := [(0, .ref h5), (1, .int sk), (2, .int la), (3, .int n)]) (by decide +kernel) rfl (Nat.le_of_ble_eq_true rfl) rfl (fun p e s m args below meth c C hr hlk => ?_)
  have hf := F_X5_sheet.eq_1 ln lg cl sk la n
  refine z_aload_n C dX5_sheet_0 rfl 0 rfl ?_
  refine z_iconst (v := (0 : Int32)) C dX5_sheet_1 (by decide) ?_
  refine z_put (T := TX5) (ty := .int) C [(h5, .inr (5, [.ref h4, .ref h2, .ref h0, .ref h1, .ref ash, .int tr, .int (0 : Int32)])), (ash, .inl (cO, 4, .inr (.inr (.inr (.inr hq))))), (h3, .inr (3, [.ref b1, .int ln, .int lg])), (b1, .inl (cI, 60, .inl cl))] i_X5_sheet_5 tyX5 tyX5_ok nmX5 0 rfl rfl 6 (by decide) m_X5_sheet_1 rfl rfl (by decide +kernel) rfl rfl (Nat.le_of_ble_eq_true rfl) dX5_sheet_2 rfl ?_
  refine z_iload_n C dX5_sheet_5 rfl 1 rfl ?_
  refine z_cSR (As := [.int sk]) C (c_X5_isSheet l D cI cO sk) (va_cwS 1 C.2.2.2.2.1 gX5_sheet_X5_isSheet rfl rfl rfl hdS_X5_isSheet ⟨Nat.le_of_ble_eq_true rfl, Nat.le_of_ble_eq_true rfl⟩) [] rfl rfl rfl _ rfl (Nat.le_of_ble_eq_true rfl) ⟨Nat.zero_le _, Nat.zero_le _⟩ dX5_sheet_6 ?_
  generalize hu6 : (F_X5_isSheet sk) = u6 at hf ⊢
  refine z_if_ne (tgt := 14) C dX5_sheet_9 (by decide) (fun c9 => ?_) (fun c9 => ?_)
  · rw [if_neg c9] at hf
    have b9 := c9
    rw [← hu6] at c9
    refine z_iload_n C dX5_sheet_14 rfl 2 rfl ?_
    refine z_cSR (As := [.int la]) C (c_X5_isLane l D cI cO la) (va_cwS 1 C.2.2.2.2.1 gX5_sheet_X5_isLane rfl rfl rfl hdS_X5_isLane ⟨Nat.le_of_ble_eq_true rfl, Nat.le_of_ble_eq_true rfl⟩) [] rfl rfl rfl _ rfl (Nat.le_of_ble_eq_true rfl) ⟨Nat.zero_le _, Nat.zero_le _⟩ dX5_sheet_15 ?_
    generalize hu15 : (F_X5_isLane la) = u15 at hf ⊢
    refine z_if_eq (tgt := 27) C dX5_sheet_18 (by decide) (fun c18 => ?_) (fun c18 => ?_)
    · rw [if_pos c18] at hf
      have b18 := c18
      rw [← hu15] at c18
      refine z_bipush (v := (-2 : Int32)) C dX5_sheet_27 (by decide) ?_
      exact z_iretW C hr hlk (by rw [hf]) (by rw [hf]) dX5_sheet_29
    · rw [if_neg c18] at hf
      have b18 := c18
      rw [← hu15] at c18
      refine z_iload_n C dX5_sheet_21 rfl 3 rfl ?_
      refine z_bipush (v := (60 : Int32)) C dX5_sheet_22 (by decide) ?_
      refine z_icmp_le (tgt := 30) C dX5_sheet_24 (by decide) (fun c24 => ?_) (fun c24 => ?_)
      · rw [if_pos c24] at hf
        refine z_iload_n C dX5_sheet_30 rfl 3 rfl ?_
        refine z_if_ge (tgt := 40) C dX5_sheet_31 (by decide) (fun c31 => ?_) (fun c31 => ?_)
        · rw [if_pos c31] at hf
          refine z_aload_n C dX5_sheet_40 rfl 0 rfl ?_
          refine z_get (T := TX5) (v := .ref ash) C i_X5_sheet_5 0 rfl rfl 4 (by decide) m_X5_sheet_2 rfl rfl dX5_sheet_41 ?_
          refine z_iload_n C dX5_sheet_44 rfl 1 rfl ?_
          refine z_aldq (b := h3) C 1 rfl (by subst hu15 hu6; exact (isSheet_ix c9)) (by subst hu15 hu6; exact (hsq c9)) dX5_sheet_45 ?_
          refine z_iload_n C dX5_sheet_46 rfl 2 rfl ?_
          refine z_iload_n C dX5_sheet_47 rfl 3 rfl ?_
          refine z_cVW (As := [.int la, .int n]) C (c_X3_begin l D cI cO h3 b1 ln lg cl la n) (cwV 2 C.2.2.2.2.1 gX5_sheet_X3_begin rfl rfl rfl hdV_X3_begin ⟨Nat.le_of_ble_eq_true rfl, Nat.le_of_ble_eq_true rfl⟩) [(h5, .inr (5, [.ref h4, .ref h2, .ref h0, .ref h1, .ref ash, .int tr, .int (0 : Int32)])), (ash, .inl (cO, 4, .inr (.inr (.inr (.inr hq))))), (h3, .inr (3, [.ref b1, .int ((F_X3_begin cl la n).1), .int ((F_X3_begin cl la n).2.1)])), (b1, .inl (cI, 60, .inl ((F_X3_begin cl la n).2.2)))] [2, 3] rfl rfl (Eq.refl [h3, b1]) rfl 2 rfl rfl rfl _ rfl (Nat.le_of_ble_eq_true rfl) ⟨Nat.zero_le _, Nat.zero_le _⟩ dX5_sheet_48 ?_
          generalize hu48 : (F_X3_begin cl la n) = u48 at hf ⊢
          refine z_iconst (v := (1 : Int32)) C dX5_sheet_51 (by decide) ?_
          exact z_iretW C hr hlk (by rw [hf]) (by rw [hf]) dX5_sheet_52
        · rw [if_neg c31] at hf
          refine z_aload_n C dX5_sheet_34 rfl 0 rfl ?_
          refine z_iconst (v := (4 : Int32)) C dX5_sheet_35 (by decide) ?_
          refine z_cVW (As := [.int (4 : Int32)]) C (c_X5_failed l D cI cO h5 ash tr (0 : Int32) h4 h2 h0 h1 (4 : Int32)) (cwV 1 C.2.2.2.2.1 gX5_sheet_X5_failed rfl rfl rfl hdV_X5_failed ⟨Nat.le_of_ble_eq_true rfl, Nat.le_of_ble_eq_true rfl⟩) [(h5, .inr (5, [.ref h4, .ref h2, .ref h0, .ref h1, .ref ash, .int tr, .int ((F_X5_failed (4 : Int32)).2)])), (ash, .inl (cO, 4, .inr (.inr (.inr (.inr hq))))), (h3, .inr (3, [.ref b1, .int ln, .int lg])), (b1, .inl (cI, 60, .inl cl))] [0] rfl rfl (Eq.refl [h5]) rfl 0 rfl rfl rfl _ rfl (Nat.le_of_ble_eq_true rfl) ⟨Nat.zero_le _, Nat.zero_le _⟩ dX5_sheet_36 ?_
          generalize hu36 : (F_X5_failed (4 : Int32)) = u36 at hf ⊢
          exact z_iretW C hr hlk (by rw [hf]) (by rw [hf]) dX5_sheet_39
      · rw [if_neg c24] at hf
        refine z_bipush (v := (-2 : Int32)) C dX5_sheet_27 (by decide) ?_
        exact z_iretW C hr hlk (by rw [hf]) (by rw [hf]) dX5_sheet_29
  · rw [if_pos c9] at hf
    have b9 := c9
    rw [← hu6] at c9
    refine z_iconst (v := (-1 : Int32)) C dX5_sheet_12 (by decide) ?_
    exact z_iretW C hr hlk (by rw [hf]) (by rw [hf]) dX5_sheet_13
-- X5_lose
theorem i_X5_lose_5 : ∀ w ∈ u_ws RX5 TX5 7, w ∈ wsX5_lose := by decide +kernel
theorem m_X5_lose_1 : Cond.fieldLink RX5 41 "WishPins" "sheets" "[LWishPins$Sheet;" ∈ wsX5_lose := List.mem_of_getElem? (i := 1) rfl
def F_X5_lose (ln : Int32) (lg : Int32) (sk : Int32) : Int32 × Int32 × Int32 :=
  (if (F_X5_isSheet sk) = 0 then ((-1 : Int32), ln, lg) else (if (F_X3_hasRow ln) = 0 then ((0 : Int32), F_X3_end.1, F_X3_end.2) else ((1 : Int32), F_X3_end.1, F_X3_end.2)))
set_option maxHeartbeats 4000000 in
set_option maxRecDepth 100000 in
theorem c_X5_lose (l : Launch) (D : va_G) (cI cO : ClassId) (h5 : Nat) (ash : Nat) (tr : Int32) (ft : Int32) (hq : Nat → Option Nat) (h4 : Nat) (h2 : Nat) (h0 : Nat) (h1 : Nat) (h3 : Nat) (b1 : Nat) (ln : Int32) (lg : Int32) (sk : Int32) (hsq : ¬ F_X5_isSheet sk = 0 → hq sk.toNatClampNeg = some h3) : zW l yX5_lose wsX5_lose ({ frames := 1, cells := 0, slots := 0, locals := 20 } : Room) D cI cO [.ref h5, .int sk] [(h5, .inr (5, [.ref h4, .ref h2, .ref h0, .ref h1, .ref ash, .int tr, .int ft])), (ash, .inl (cO, 4, .inr (.inr (.inr (.inr hq))))), (h3, .inr (3, [.ref b1, .int ln, .int lg]))] [(h5, .inr (5, [.ref h4, .ref h2, .ref h0, .ref h1, .ref ash, .int tr, .int ft])), (ash, .inl (cO, 4, .inr (.inr (.inr (.inr hq))))), (h3, .inr (3, [.ref b1, .int ((F_X5_lose ln lg sk).2.1), .int ((F_X5_lose ln lg sk).2.2)]))] (some (.int ((F_X5_lose ln lg sk).1))) := by
  refine zW_of (nL := 3) (cc := cX5_lose) (ret := some .int) (lv := [(0, .ref h5), (1, .int sk)]) (by decide +kernel) rfl (Nat.le_of_ble_eq_true rfl) rfl (fun p e s m args below meth c C hr hlk => ?_)
  have hf := F_X5_lose.eq_1 ln lg sk
  refine z_iload_n C dX5_lose_0 rfl 1 rfl ?_
  refine z_cSR (As := [.int sk]) C (c_X5_isSheet l D cI cO sk) (va_cwS 1 C.2.2.2.2.1 gX5_lose_X5_isSheet rfl rfl rfl hdS_X5_isSheet ⟨Nat.le_of_ble_eq_true rfl, Nat.le_of_ble_eq_true rfl⟩) [] rfl rfl rfl _ rfl (Nat.le_of_ble_eq_true rfl) ⟨Nat.zero_le _, Nat.zero_le _⟩ dX5_lose_1 ?_
  generalize hu1 : (F_X5_isSheet sk) = u1 at hf ⊢
  refine z_if_ne (tgt := 9) C dX5_lose_4 (by decide) (fun c4 => ?_) (fun c4 => ?_)
  · rw [if_neg c4] at hf
    have b4 := c4
    rw [← hu1] at c4
    refine z_aload_n C dX5_lose_9 rfl 0 rfl ?_
    refine z_get (T := TX5) (v := .ref ash) C i_X5_lose_5 0 rfl rfl 4 (by decide) m_X5_lose_1 rfl rfl dX5_lose_10 ?_
    refine z_iload_n C dX5_lose_13 rfl 1 rfl ?_
    refine z_aldq (b := h3) C 1 rfl (by subst hu1; exact (isSheet_ix c4)) (by subst hu1; exact (hsq c4)) dX5_lose_14 ?_
    refine z_cVR (As := []) C (c_X3_hasRow l D cI cO h3 b1 ln lg) (cwV 0 C.2.2.2.2.1 gX5_lose_X3_hasRow rfl rfl rfl hdV_X3_hasRow ⟨Nat.le_of_ble_eq_true rfl, Nat.le_of_ble_eq_true rfl⟩) [2] rfl rfl 2 rfl rfl rfl _ rfl (Nat.le_of_ble_eq_true rfl) ⟨Nat.zero_le _, Nat.zero_le _⟩ dX5_lose_15 ?_
    generalize hu15 : (F_X3_hasRow ln) = u15 at hf ⊢
    refine z_istore_n C [(0, .ref h5), (1, .int sk), (2, .int u15)] dX5_lose_18 rfl (by decide) [1, 2, 0] rfl ?_
    refine z_aload_n C dX5_lose_19 rfl 0 rfl ?_
    refine z_get (T := TX5) (v := .ref ash) C i_X5_lose_5 0 rfl rfl 4 (by decide) m_X5_lose_1 rfl rfl dX5_lose_20 ?_
    refine z_iload_n C dX5_lose_23 rfl 1 rfl ?_
    refine z_aldq (b := h3) C 1 rfl (by subst hu15 hu1; exact (isSheet_ix c4)) (by subst hu15 hu1; exact (hsq c4)) dX5_lose_24 ?_
    refine z_cVW (As := []) C (c_X3_end l D cI cO h3 b1 ln lg) (cwV 0 C.2.2.2.2.1 gX5_lose_X3_end rfl rfl rfl hdV_X3_end ⟨Nat.le_of_ble_eq_true rfl, Nat.le_of_ble_eq_true rfl⟩) [(h5, .inr (5, [.ref h4, .ref h2, .ref h0, .ref h1, .ref ash, .int tr, .int ft])), (ash, .inl (cO, 4, .inr (.inr (.inr (.inr hq))))), (h3, .inr (3, [.ref b1, .int F_X3_end.1, .int F_X3_end.2]))] [2] rfl rfl (Eq.refl [h3]) rfl 2 rfl rfl rfl _ rfl (Nat.le_of_ble_eq_true rfl) ⟨Nat.zero_le _, Nat.zero_le _⟩ dX5_lose_25 ?_
    generalize hu25 : F_X3_end = u25 at hf ⊢
    refine z_iload_n C dX5_lose_28 rfl 2 rfl ?_
    refine z_if_eq (tgt := 36) C dX5_lose_29 (by decide) (fun c29 => ?_) (fun c29 => ?_)
    · rw [if_pos c29] at hf
      have b29 := c29
      rw [← hu15] at c29
      refine z_iconst (v := (0 : Int32)) C dX5_lose_36 (by decide) ?_
      exact z_iretW C hr hlk (by rw [hf]) (by rw [hf]) dX5_lose_37
    · rw [if_neg c29] at hf
      have b29 := c29
      rw [← hu15] at c29
      refine z_iconst (v := (1 : Int32)) C dX5_lose_32 (by decide) ?_
      refine z_goto (tgt := 37) C dX5_lose_33 (by decide) ?_
      exact z_iretW C hr hlk (by rw [hf]) (by rw [hf]) dX5_lose_37
  · rw [if_pos c4] at hf
    have b4 := c4
    rw [← hu1] at c4
    refine z_iconst (v := (-1 : Int32)) C dX5_lose_7 (by decide) ?_
    exact z_iretW C hr hlk (by rw [hf]) (by rw [hf]) dX5_lose_8
-- X5_put
theorem i_X5_put_5 : ∀ w ∈ u_ws RX5 TX5 7, w ∈ wsX5_put := by decide +kernel
theorem m_X5_put_1 : Cond.fieldLink RX5 46 "WishPins" "latestFault" "I" ∈ wsX5_put := List.mem_of_getElem? (i := 1) rfl
theorem m_X5_put_2 : Cond.fieldLink RX5 41 "WishPins" "sheets" "[LWishPins$Sheet;" ∈ wsX5_put := List.mem_of_getElem? (i := 2) rfl
def F_X5_put (ln : Int32) (lg : Int32) (cl : Nat → Int32) (sk : Int32) (i : Int32) (v : Int32) : Int32 × Int32 × (Nat → Int32) :=
  (if (F_X5_isSheet sk) = 0 then ((-1 : Int32), (0 : Int32), cl) else (if (F_X3_hasRow ln) = 0 then ((F_X5_failed (1 : Int32)).1, (F_X5_failed (1 : Int32)).2, cl) else (if (F_X3_hasCells lg i (1 : Int32)) = 0 then ((F_X5_failed (3 : Int32)).1, (F_X5_failed (3 : Int32)).2, cl) else ((1 : Int32), (0 : Int32), (F_X3_set ln lg cl i v)))))
set_option maxHeartbeats 4000000 in
set_option maxRecDepth 100000 in
theorem c_X5_put (l : Launch) (D : va_G) (cI cO : ClassId) (h5 : Nat) (ash : Nat) (tr : Int32) (ft : Int32) (hq : Nat → Option Nat) (h4 : Nat) (h2 : Nat) (h0 : Nat) (h1 : Nat) (h3 : Nat) (b1 : Nat) (ln : Int32) (lg : Int32) (cl : Nat → Int32) (sk : Int32) (i : Int32) (v : Int32) (hsq : ¬ F_X5_isSheet sk = 0 → hq sk.toNatClampNeg = some h3) (hlg : lg ≤ 60) : zW l yX5_put wsX5_put ({ frames := 2, cells := 0, slots := 0, locals := 44 } : Room) D cI cO [.ref h5, .int sk, .int i, .int v] [(h5, .inr (5, [.ref h4, .ref h2, .ref h0, .ref h1, .ref ash, .int tr, .int ft])), (ash, .inl (cO, 4, .inr (.inr (.inr (.inr hq))))), (h3, .inr (3, [.ref b1, .int ln, .int lg])), (b1, .inl (cI, 60, .inl cl))] [(h5, .inr (5, [.ref h4, .ref h2, .ref h0, .ref h1, .ref ash, .int tr, .int ((F_X5_put ln lg cl sk i v).2.1)])), (ash, .inl (cO, 4, .inr (.inr (.inr (.inr hq))))), (h3, .inr (3, [.ref b1, .int ln, .int lg])), (b1, .inl (cI, 60, .inl ((F_X5_put ln lg cl sk i v).2.2)))] (some (.int ((F_X5_put ln lg cl sk i v).1))) := by
  refine zW_of (nL := 5) (cc := cX5_put) (ret := some .int) (lv := [(0, .ref h5), (1, .int sk), (2, .int i), (3, .int v)]) (by decide +kernel) rfl (Nat.le_of_ble_eq_true rfl) rfl (fun p e s m args below meth c C hr hlk => ?_)
  have hf := F_X5_put.eq_1 ln lg cl sk i v
  refine z_aload_n C dX5_put_0 rfl 0 rfl ?_
  refine z_iconst (v := (0 : Int32)) C dX5_put_1 (by decide) ?_
  refine z_put (T := TX5) (ty := .int) C [(h5, .inr (5, [.ref h4, .ref h2, .ref h0, .ref h1, .ref ash, .int tr, .int (0 : Int32)])), (ash, .inl (cO, 4, .inr (.inr (.inr (.inr hq))))), (h3, .inr (3, [.ref b1, .int ln, .int lg])), (b1, .inl (cI, 60, .inl cl))] i_X5_put_5 tyX5 tyX5_ok nmX5 0 rfl rfl 6 (by decide) m_X5_put_1 rfl rfl (by decide +kernel) rfl rfl (Nat.le_of_ble_eq_true rfl) dX5_put_2 rfl ?_
  refine z_iload_n C dX5_put_5 rfl 1 rfl ?_
  refine z_cSR (As := [.int sk]) C (c_X5_isSheet l D cI cO sk) (va_cwS 1 C.2.2.2.2.1 gX5_put_X5_isSheet rfl rfl rfl hdS_X5_isSheet ⟨Nat.le_of_ble_eq_true rfl, Nat.le_of_ble_eq_true rfl⟩) [] rfl rfl rfl _ rfl (Nat.le_of_ble_eq_true rfl) ⟨Nat.zero_le _, Nat.zero_le _⟩ dX5_put_6 ?_
  generalize hu6 : (F_X5_isSheet sk) = u6 at hf ⊢
  refine z_if_ne (tgt := 14) C dX5_put_9 (by decide) (fun c9 => ?_) (fun c9 => ?_)
  · rw [if_neg c9] at hf
    have b9 := c9
    rw [← hu6] at c9
    refine z_aload_n C dX5_put_14 rfl 0 rfl ?_
    refine z_get (T := TX5) (v := .ref ash) C i_X5_put_5 0 rfl rfl 4 (by decide) m_X5_put_2 rfl rfl dX5_put_15 ?_
    refine z_iload_n C dX5_put_18 rfl 1 rfl ?_
    refine z_aldq (b := h3) C 1 rfl (by subst hu6; exact (isSheet_ix c9)) (by subst hu6; exact (hsq c9)) dX5_put_19 ?_
    refine z_astore C [(0, .ref h5), (1, .int sk), (2, .int i), (3, .int v), (4, .ref h3)] dX5_put_20 (by decide) [1, 2, 3, 4, 0] rfl ?_
    refine z_aload C dX5_put_22 4 rfl ?_
    refine z_cVR (As := []) C (c_X3_hasRow l D cI cO h3 b1 ln lg) (cwV 0 C.2.2.2.2.1 gX5_put_X3_hasRow rfl rfl rfl hdV_X3_hasRow ⟨Nat.le_of_ble_eq_true rfl, Nat.le_of_ble_eq_true rfl⟩) [2] rfl rfl 2 rfl rfl rfl _ rfl (Nat.le_of_ble_eq_true rfl) ⟨Nat.zero_le _, Nat.zero_le _⟩ dX5_put_24 ?_
    generalize hu24 : (F_X3_hasRow ln) = u24 at hf ⊢
    refine z_if_ne (tgt := 36) C dX5_put_27 (by decide) (fun c27 => ?_) (fun c27 => ?_)
    · rw [if_neg c27] at hf
      have b27 := c27
      rw [← hu24] at c27
      refine z_aload C dX5_put_36 4 rfl ?_
      refine z_iload_n C dX5_put_38 rfl 2 rfl ?_
      refine z_iconst (v := (1 : Int32)) C dX5_put_39 (by decide) ?_
      refine z_cVR (As := [.int i, .int (1 : Int32)]) C (c_X3_hasCells l D cI cO h3 b1 ln lg i (1 : Int32)) (cwV 2 C.2.2.2.2.1 gX5_put_X3_hasCells rfl rfl rfl hdV_X3_hasCells ⟨Nat.le_of_ble_eq_true rfl, Nat.le_of_ble_eq_true rfl⟩) [2] rfl rfl 2 rfl rfl rfl _ rfl (Nat.le_of_ble_eq_true rfl) ⟨Nat.zero_le _, Nat.zero_le _⟩ dX5_put_40 ?_
      generalize hu40 : (F_X3_hasCells lg i (1 : Int32)) = u40 at hf ⊢
      refine z_if_ne (tgt := 52) C dX5_put_43 (by decide) (fun c43 => ?_) (fun c43 => ?_)
      · rw [if_neg c43] at hf
        have b43 := c43
        rw [← hu40] at c43
        refine z_aload C dX5_put_52 4 rfl ?_
        refine z_iload_n C dX5_put_54 rfl 2 rfl ?_
        refine z_iload_n C dX5_put_55 rfl 3 rfl ?_
        refine z_cVW (As := [.int i, .int v]) C (c_X3_set l D cI cO h3 b1 ln lg cl i v (by subst hu40 hu24 hu6; exact hlg)) (cwV 2 C.2.2.2.2.1 gX5_put_X3_set rfl rfl rfl hdV_X3_set ⟨Nat.le_of_ble_eq_true rfl, Nat.le_of_ble_eq_true rfl⟩) [(h5, .inr (5, [.ref h4, .ref h2, .ref h0, .ref h1, .ref ash, .int tr, .int (0 : Int32)])), (ash, .inl (cO, 4, .inr (.inr (.inr (.inr hq))))), (h3, .inr (3, [.ref b1, .int ln, .int lg])), (b1, .inl (cI, 60, .inl (F_X3_set ln lg cl i v)))] [2, 3] rfl rfl (Eq.refl [h3, b1]) rfl 2 rfl rfl rfl _ rfl (Nat.le_of_ble_eq_true rfl) ⟨Nat.zero_le _, Nat.zero_le _⟩ dX5_put_56 ?_
        generalize hu56 : (F_X3_set ln lg cl i v) = u56 at hf ⊢
        refine z_iconst (v := (1 : Int32)) C dX5_put_59 (by decide) ?_
        exact z_iretW C hr hlk (by rw [hf]) (by rw [hf]) dX5_put_60
      · rw [if_pos c43] at hf
        have b43 := c43
        rw [← hu40] at c43
        refine z_aload_n C dX5_put_46 rfl 0 rfl ?_
        refine z_iconst (v := (3 : Int32)) C dX5_put_47 (by decide) ?_
        refine z_cVW (As := [.int (3 : Int32)]) C (c_X5_failed l D cI cO h5 ash tr (0 : Int32) h4 h2 h0 h1 (3 : Int32)) (cwV 1 C.2.2.2.2.1 gX5_put_X5_failed rfl rfl rfl hdV_X5_failed ⟨Nat.le_of_ble_eq_true rfl, Nat.le_of_ble_eq_true rfl⟩) [(h5, .inr (5, [.ref h4, .ref h2, .ref h0, .ref h1, .ref ash, .int tr, .int ((F_X5_failed (3 : Int32)).2)])), (ash, .inl (cO, 4, .inr (.inr (.inr (.inr hq))))), (h3, .inr (3, [.ref b1, .int ln, .int lg])), (b1, .inl (cI, 60, .inl cl))] [0] rfl rfl (Eq.refl [h5]) rfl 0 rfl rfl rfl _ rfl (Nat.le_of_ble_eq_true rfl) ⟨Nat.zero_le _, Nat.zero_le _⟩ dX5_put_48 ?_
        generalize hu48 : (F_X5_failed (3 : Int32)) = u48 at hf ⊢
        exact z_iretW C hr hlk (by rw [hf]) (by rw [hf]) dX5_put_51
    · rw [if_pos c27] at hf
      have b27 := c27
      rw [← hu24] at c27
      refine z_aload_n C dX5_put_30 rfl 0 rfl ?_
      refine z_iconst (v := (1 : Int32)) C dX5_put_31 (by decide) ?_
      refine z_cVW (As := [.int (1 : Int32)]) C (c_X5_failed l D cI cO h5 ash tr (0 : Int32) h4 h2 h0 h1 (1 : Int32)) (cwV 1 C.2.2.2.2.1 gX5_put_X5_failed rfl rfl rfl hdV_X5_failed ⟨Nat.le_of_ble_eq_true rfl, Nat.le_of_ble_eq_true rfl⟩) [(h5, .inr (5, [.ref h4, .ref h2, .ref h0, .ref h1, .ref ash, .int tr, .int ((F_X5_failed (1 : Int32)).2)])), (ash, .inl (cO, 4, .inr (.inr (.inr (.inr hq))))), (h3, .inr (3, [.ref b1, .int ln, .int lg])), (b1, .inl (cI, 60, .inl cl))] [0] rfl rfl (Eq.refl [h5]) rfl 0 rfl rfl rfl _ rfl (Nat.le_of_ble_eq_true rfl) ⟨Nat.zero_le _, Nat.zero_le _⟩ dX5_put_32 ?_
      generalize hu32 : (F_X5_failed (1 : Int32)) = u32 at hf ⊢
      exact z_iretW C hr hlk (by rw [hf]) (by rw [hf]) dX5_put_35
  · rw [if_pos c9] at hf
    have b9 := c9
    rw [← hu6] at c9
    refine z_iconst (v := (-1 : Int32)) C dX5_put_12 (by decide) ?_
    exact z_iretW C hr hlk (by rw [hf]) (by rw [hf]) dX5_put_13
-- X5_cell
theorem i_X5_cell_5 : ∀ w ∈ u_ws RX5 TX5 7, w ∈ wsX5_cell := by decide +kernel
theorem m_X5_cell_1 : Cond.fieldLink RX5 46 "WishPins" "latestFault" "I" ∈ wsX5_cell := List.mem_of_getElem? (i := 1) rfl
theorem m_X5_cell_2 : Cond.constantLong RX5 182 (-9223372036854775808) ∈ wsX5_cell := List.mem_of_getElem? (i := 2) rfl
theorem m_X5_cell_3 : Cond.fieldLink RX5 41 "WishPins" "sheets" "[LWishPins$Sheet;" ∈ wsX5_cell := List.mem_of_getElem? (i := 3) rfl
def F_X5_cell (ln : Int32) (lg : Int32) (cl : Nat → Int32) (sk : Int32) (i : Int32) (la : Int32) : Int64 × Int32 :=
  (if (F_X5_isSheet sk) = 0 then ((-9223372036854775808 : Int64), (0 : Int32)) else (if (F_X5_isLane la) = 0 then ((-9223372036854775808 : Int64), (0 : Int32)) else (if (F_X3_faultOfCells ln lg la i (1 : Int32)) = 0 then ((F_X3_at lg cl i).toInt64, (0 : Int32)) else ((-9223372036854775808 : Int64), (F_X3_faultOfCells ln lg la i (1 : Int32))))))
set_option maxHeartbeats 4000000 in
set_option maxRecDepth 100000 in
theorem c_X5_cell (l : Launch) (D : va_G) (cI cO : ClassId) (h5 : Nat) (ash : Nat) (tr : Int32) (ft : Int32) (hq : Nat → Option Nat) (h4 : Nat) (h2 : Nat) (h0 : Nat) (h1 : Nat) (h3 : Nat) (b1 : Nat) (ln : Int32) (lg : Int32) (cl : Nat → Int32) (sk : Int32) (i : Int32) (la : Int32) (hsq : ¬ F_X5_isSheet sk = 0 → hq sk.toNatClampNeg = some h3) (hlg : lg ≤ 60) : zW l yX5_cell wsX5_cell ({ frames := 3, cells := 0, slots := 0, locals := 65 } : Room) D cI cO [.ref h5, .int sk, .int i, .int la] [(h5, .inr (5, [.ref h4, .ref h2, .ref h0, .ref h1, .ref ash, .int tr, .int ft])), (ash, .inl (cO, 4, .inr (.inr (.inr (.inr hq))))), (h3, .inr (3, [.ref b1, .int ln, .int lg])), (b1, .inl (cI, 60, .inl cl))] [(h5, .inr (5, [.ref h4, .ref h2, .ref h0, .ref h1, .ref ash, .int tr, .int ((F_X5_cell ln lg cl sk i la).2)])), (ash, .inl (cO, 4, .inr (.inr (.inr (.inr hq))))), (h3, .inr (3, [.ref b1, .int ln, .int lg])), (b1, .inl (cI, 60, .inl cl))] (some (.long ((F_X5_cell ln lg cl sk i la).1))) := by
  refine zW_of (nL := 6) (cc := cX5_cell) (ret := some .long) (lv := [(0, .ref h5), (1, .int sk), (2, .int i), (3, .int la)]) (by decide +kernel) rfl (Nat.le_of_ble_eq_true rfl) rfl (fun p e s m args below meth c C hr hlk => ?_)
  have hf := F_X5_cell.eq_1 ln lg cl sk i la
  refine z_aload_n C dX5_cell_0 rfl 0 rfl ?_
  refine z_iconst (v := (0 : Int32)) C dX5_cell_1 (by decide) ?_
  refine z_put (T := TX5) (ty := .int) C [(h5, .inr (5, [.ref h4, .ref h2, .ref h0, .ref h1, .ref ash, .int tr, .int (0 : Int32)])), (ash, .inl (cO, 4, .inr (.inr (.inr (.inr hq))))), (h3, .inr (3, [.ref b1, .int ln, .int lg])), (b1, .inl (cI, 60, .inl cl))] i_X5_cell_5 tyX5 tyX5_ok nmX5 0 rfl rfl 6 (by decide) m_X5_cell_1 rfl rfl (by decide +kernel) rfl rfl (Nat.le_of_ble_eq_true rfl) dX5_cell_2 rfl ?_
  refine z_iload_n C dX5_cell_5 rfl 1 rfl ?_
  refine z_cSR (As := [.int sk]) C (c_X5_isSheet l D cI cO sk) (va_cwS 1 C.2.2.2.2.1 gX5_cell_X5_isSheet rfl rfl rfl hdS_X5_isSheet ⟨Nat.le_of_ble_eq_true rfl, Nat.le_of_ble_eq_true rfl⟩) [] rfl rfl rfl _ rfl (Nat.le_of_ble_eq_true rfl) ⟨Nat.zero_le _, Nat.zero_le _⟩ dX5_cell_6 ?_
  generalize hu6 : (F_X5_isSheet sk) = u6 at hf ⊢
  refine z_if_eq (tgt := 19) C dX5_cell_9 (by decide) (fun c9 => ?_) (fun c9 => ?_)
  · rw [if_pos c9] at hf
    have b9 := c9
    rw [← hu6] at c9
    refine z_ldc2 C m_X5_cell_2 dX5_cell_19 ?_
    exact z_lretW C hr hlk (by rw [hf]) (by rw [hf]) dX5_cell_22
  · rw [if_neg c9] at hf
    have b9 := c9
    rw [← hu6] at c9
    refine z_iload_n C dX5_cell_12 rfl 3 rfl ?_
    refine z_cSR (As := [.int la]) C (c_X5_isLane l D cI cO la) (va_cwS 1 C.2.2.2.2.1 gX5_cell_X5_isLane rfl rfl rfl hdS_X5_isLane ⟨Nat.le_of_ble_eq_true rfl, Nat.le_of_ble_eq_true rfl⟩) [] rfl rfl rfl _ rfl (Nat.le_of_ble_eq_true rfl) ⟨Nat.zero_le _, Nat.zero_le _⟩ dX5_cell_13 ?_
    generalize hu13 : (F_X5_isLane la) = u13 at hf ⊢
    refine z_if_ne (tgt := 23) C dX5_cell_16 (by decide) (fun c16 => ?_) (fun c16 => ?_)
    · rw [if_neg c16] at hf
      have b16 := c16
      rw [← hu13] at c16
      refine z_aload_n C dX5_cell_23 rfl 0 rfl ?_
      refine z_get (T := TX5) (v := .ref ash) C i_X5_cell_5 0 rfl rfl 4 (by decide) m_X5_cell_3 rfl rfl dX5_cell_24 ?_
      refine z_iload_n C dX5_cell_27 rfl 1 rfl ?_
      refine z_aldq (b := h3) C 1 rfl (by subst hu13 hu6; exact (isSheet_ix c9)) (by subst hu13 hu6; exact (hsq c9)) dX5_cell_28 ?_
      refine z_astore C [(0, .ref h5), (1, .int sk), (2, .int i), (3, .int la), (4, .ref h3)] dX5_cell_29 (by decide) [1, 2, 3, 4, 0] rfl ?_
      refine z_aload C dX5_cell_31 4 rfl ?_
      refine z_iload_n C dX5_cell_33 rfl 3 rfl ?_
      refine z_iload_n C dX5_cell_34 rfl 2 rfl ?_
      refine z_iconst (v := (1 : Int32)) C dX5_cell_35 (by decide) ?_
      refine z_cVR (As := [.int la, .int i, .int (1 : Int32)]) C (c_X3_faultOfCells l D cI cO h3 b1 ln lg la i (1 : Int32)) (cwV 3 C.2.2.2.2.1 gX5_cell_X3_faultOfCells rfl rfl rfl hdV_X3_faultOfCells ⟨Nat.le_of_ble_eq_true rfl, Nat.le_of_ble_eq_true rfl⟩) [2] rfl rfl 2 rfl rfl rfl _ rfl (Nat.le_of_ble_eq_true rfl) ⟨Nat.zero_le _, Nat.zero_le _⟩ dX5_cell_36 ?_
      generalize hu36 : (F_X3_faultOfCells ln lg la i (1 : Int32)) = u36 at hf ⊢
      refine z_istore C [(0, .ref h5), (1, .int sk), (2, .int i), (3, .int la), (4, .ref h3), (5, .int u36)] dX5_cell_39 (by decide) [1, 2, 3, 4, 5, 0] rfl ?_
      refine z_iload C dX5_cell_41 5 rfl ?_
      refine z_if_eq (tgt := 56) C dX5_cell_43 (by decide) (fun c43 => ?_) (fun c43 => ?_)
      · rw [if_pos c43] at hf
        have b43 := c43
        rw [← hu36] at c43
        refine z_aload C dX5_cell_56 4 rfl ?_
        refine z_iload_n C dX5_cell_58 rfl 2 rfl ?_
        refine z_cVR (As := [.int i]) C (c_X3_at l D cI cO h3 b1 ln lg cl i (by subst hu36 hu13 hu6; exact hlg)) (cwV 1 C.2.2.2.2.1 gX5_cell_X3_at rfl rfl rfl hdV_X3_at ⟨Nat.le_of_ble_eq_true rfl, Nat.le_of_ble_eq_true rfl⟩) [2, 3] rfl rfl 2 rfl rfl rfl _ rfl (Nat.le_of_ble_eq_true rfl) ⟨Nat.zero_le _, Nat.zero_le _⟩ dX5_cell_59 ?_
        generalize hu59 : (F_X3_at lg cl i) = u59 at hf ⊢
        refine z_i2l C dX5_cell_62 ?_
        exact z_lretW C hr hlk (by rw [hf]) (by rw [hf]) dX5_cell_63
      · rw [if_neg c43] at hf
        have b43 := c43
        rw [← hu36] at c43
        refine z_aload_n C dX5_cell_46 rfl 0 rfl ?_
        refine z_iload C dX5_cell_47 5 rfl ?_
        refine z_put (T := TX5) (ty := .int) C [(h5, .inr (5, [.ref h4, .ref h2, .ref h0, .ref h1, .ref ash, .int tr, .int u36])), (ash, .inl (cO, 4, .inr (.inr (.inr (.inr hq))))), (h3, .inr (3, [.ref b1, .int ln, .int lg])), (b1, .inl (cI, 60, .inl cl))] i_X5_cell_5 tyX5 tyX5_ok nmX5 0 rfl rfl 6 (by decide) m_X5_cell_1 rfl rfl (by decide +kernel) rfl rfl (Nat.le_of_ble_eq_true rfl) dX5_cell_49 rfl ?_
        refine z_ldc2 C m_X5_cell_2 dX5_cell_52 ?_
        exact z_lretW C hr hlk (by rw [hf]) (by rw [hf]) dX5_cell_55
    · rw [if_pos c16] at hf
      have b16 := c16
      rw [← hu13] at c16
      refine z_ldc2 C m_X5_cell_2 dX5_cell_19 ?_
      exact z_lretW C hr hlk (by rw [hf]) (by rw [hf]) dX5_cell_22
-- X5_copyD
theorem i_X5_copyD_5 : ∀ w ∈ u_ws RX5 TX5 7, w ∈ wsX5_copy := by decide +kernel
theorem m_X5_copyD_1 : Cond.fieldLink RX5 46 "WishPins" "latestFault" "I" ∈ wsX5_copy := List.mem_of_getElem? (i := 1) rfl
theorem m_X5_copyD_2 : Cond.fieldLink RX5 41 "WishPins" "sheets" "[LWishPins$Sheet;" ∈ wsX5_copy := List.mem_of_getElem? (i := 2) rfl
theorem i_X5_copyD_3 : ∀ w ∈ u_ws RX3 TX3 3, w ∈ wsX5_copy := by decide +kernel
theorem m_X5_copyD_3 : Cond.fieldLink RX5 199 "WishPins$Sheet" "lane" "I" ∈ wsX5_copy := List.mem_of_getElem? (i := 3) rfl
theorem m_X5_copyD_4 : Cond.fieldLink RX5 202 "WishPins$Sheet" "cells" "[I" ∈ wsX5_copy := List.mem_of_getElem? (i := 4) rfl
theorem m_X5_copyD_5 : Cond.methodLink RX5 206 arraycopyName ∈ wsX5_copy := List.mem_of_getElem? (i := 5) rfl
theorem m_X5_copyD_6 : Cond.native arraycopyName ∈ wsX5_copy := List.mem_of_getElem? (i := 6) rfl
theorem m_X5_copyD_7 : Cond.static arraycopyName ∈ wsX5_copy := List.mem_of_getElem? (i := 7) rfl
theorem m_X5_copyD_8 : Cond.initialized "java/lang/System" ∈ wsX5_copy := List.mem_of_getElem? (i := 8) rfl
def F_X5_copyD (ln : Int32) (lg : Int32) (cl : Nat → Int32) (lno : Int32) (lgo : Int32) (clo : Nat → Int32) (sk : Int32) (i : Int32) (so : Int32) (j : Int32) (n : Int32) : Int32 × Int32 × (Nat → Int32) :=
  (if (F_X5_isSheet sk) = 0 then ((-1 : Int32), (0 : Int32), clo) else (if (F_X5_isSheet so) = 0 then ((-1 : Int32), (0 : Int32), clo) else (if (F_X3_hasRow ln) = 0 then ((F_X5_failed (1 : Int32)).1, (F_X5_failed (1 : Int32)).2, clo) else (if (F_X3_hasRow lno) = 0 then ((F_X5_failed (1 : Int32)).1, (F_X5_failed (1 : Int32)).2, clo) else (if ln = lno then (if (F_X3_hasCells lg i n) = 0 then ((F_X5_failed (3 : Int32)).1, (F_X5_failed (3 : Int32)).2, clo) else (if (F_X3_hasCells lgo j n) = 0 then ((F_X5_failed (3 : Int32)).1, (F_X5_failed (3 : Int32)).2, clo) else (n, (0 : Int32), (va_cpy cl clo i.toNatClampNeg j.toNatClampNeg n.toNatClampNeg)))) else ((F_X5_failed (2 : Int32)).1, (F_X5_failed (2 : Int32)).2, clo))))))
set_option maxHeartbeats 4000000 in
set_option maxRecDepth 100000 in
theorem c_X5_copyD (l : Launch) (D : va_G) (cI cO : ClassId) (h5 : Nat) (ash : Nat) (tr : Int32) (ft : Int32) (hq : Nat → Option Nat) (h4 : Nat) (h2 : Nat) (h0 : Nat) (h1 : Nat) (h3 : Nat) (b1 : Nat) (ln : Int32) (lg : Int32) (cl : Nat → Int32) (h3o : Nat) (b1o : Nat) (lno : Int32) (lgo : Int32) (clo : Nat → Int32) (sk : Int32) (i : Int32) (so : Int32) (j : Int32) (n : Int32) (hsq : ¬ F_X5_isSheet sk = 0 → hq sk.toNatClampNeg = some h3) (hsqo : ¬ F_X5_isSheet so = 0 → hq so.toNatClampNeg = some h3o) (hlg : lg ≤ 60) (hlgo : lgo ≤ 60) : zW l yX5_copy wsX5_copy ({ frames := 1, cells := 0, slots := 0, locals := 40 } : Room) D cI cO [.ref h5, .int sk, .int i, .int so, .int j, .int n] [(h5, .inr (5, [.ref h4, .ref h2, .ref h0, .ref h1, .ref ash, .int tr, .int ft])), (ash, .inl (cO, 4, .inr (.inr (.inr (.inr hq))))), (h3, .inr (3, [.ref b1, .int ln, .int lg])), (b1, .inl (cI, 60, .inl cl)), (h3o, .inr (3, [.ref b1o, .int lno, .int lgo])), (b1o, .inl (cI, 60, .inl clo))] [(h5, .inr (5, [.ref h4, .ref h2, .ref h0, .ref h1, .ref ash, .int tr, .int ((F_X5_copyD ln lg cl lno lgo clo sk i so j n).2.1)])), (ash, .inl (cO, 4, .inr (.inr (.inr (.inr hq))))), (h3, .inr (3, [.ref b1, .int ln, .int lg])), (b1, .inl (cI, 60, .inl cl)), (h3o, .inr (3, [.ref b1o, .int lno, .int lgo])), (b1o, .inl (cI, 60, .inl ((F_X5_copyD ln lg cl lno lgo clo sk i so j n).2.2)))] (some (.int ((F_X5_copyD ln lg cl lno lgo clo sk i so j n).1))) := by
  refine zW_of (nL := 8) (cc := cX5_copy) (ret := some .int) (lv := [(0, .ref h5), (1, .int sk), (2, .int i), (3, .int so), (4, .int j), (5, .int n)]) (by decide +kernel) rfl (Nat.le_of_ble_eq_true rfl) rfl (fun p e s m args below meth c C hr hlk => ?_)
  have hf := F_X5_copyD.eq_1 ln lg cl lno lgo clo sk i so j n
  refine z_aload_n C dX5_copy_0 rfl 0 rfl ?_
  refine z_iconst (v := (0 : Int32)) C dX5_copy_1 (by decide) ?_
  refine z_put (T := TX5) (ty := .int) C [(h5, .inr (5, [.ref h4, .ref h2, .ref h0, .ref h1, .ref ash, .int tr, .int (0 : Int32)])), (ash, .inl (cO, 4, .inr (.inr (.inr (.inr hq))))), (h3, .inr (3, [.ref b1, .int ln, .int lg])), (b1, .inl (cI, 60, .inl cl)), (h3o, .inr (3, [.ref b1o, .int lno, .int lgo])), (b1o, .inl (cI, 60, .inl clo))] i_X5_copyD_5 tyX5 tyX5_ok nmX5 0 rfl rfl 6 (by decide) m_X5_copyD_1 rfl rfl (by decide +kernel) rfl rfl (Nat.le_of_ble_eq_true rfl) dX5_copy_2 rfl ?_
  refine z_iload_n C dX5_copy_5 rfl 1 rfl ?_
  refine z_cSR (As := [.int sk]) C (c_X5_isSheet l D cI cO sk) (va_cwS 1 C.2.2.2.2.1 gX5_copy_X5_isSheet rfl rfl rfl hdS_X5_isSheet ⟨Nat.le_of_ble_eq_true rfl, Nat.le_of_ble_eq_true rfl⟩) [] rfl rfl rfl _ rfl (Nat.le_of_ble_eq_true rfl) ⟨Nat.zero_le _, Nat.zero_le _⟩ dX5_copy_6 ?_
  generalize hu6 : (F_X5_isSheet sk) = u6 at hf ⊢
  refine z_if_eq (tgt := 19) C dX5_copy_9 (by decide) (fun c9 => ?_) (fun c9 => ?_)
  · rw [if_pos c9] at hf
    have b9 := c9
    rw [← hu6] at c9
    refine z_iconst (v := (-1 : Int32)) C dX5_copy_19 (by decide) ?_
    exact z_iretW C hr hlk (by rw [hf]) (by rw [hf]) dX5_copy_20
  · rw [if_neg c9] at hf
    have b9 := c9
    rw [← hu6] at c9
    refine z_iload_n C dX5_copy_12 rfl 3 rfl ?_
    refine z_cSR (As := [.int so]) C (c_X5_isSheet l D cI cO so) (va_cwS 1 C.2.2.2.2.1 gX5_copy_X5_isSheet rfl rfl rfl hdS_X5_isSheet ⟨Nat.le_of_ble_eq_true rfl, Nat.le_of_ble_eq_true rfl⟩) [] rfl rfl rfl _ rfl (Nat.le_of_ble_eq_true rfl) ⟨Nat.zero_le _, Nat.zero_le _⟩ dX5_copy_13 ?_
    generalize hu13 : (F_X5_isSheet so) = u13 at hf ⊢
    refine z_if_ne (tgt := 21) C dX5_copy_16 (by decide) (fun c16 => ?_) (fun c16 => ?_)
    · rw [if_neg c16] at hf
      have b16 := c16
      rw [← hu13] at c16
      refine z_aload_n C dX5_copy_21 rfl 0 rfl ?_
      refine z_get (T := TX5) (v := .ref ash) C i_X5_copyD_5 0 rfl rfl 4 (by decide) m_X5_copyD_2 rfl rfl dX5_copy_22 ?_
      refine z_iload_n C dX5_copy_25 rfl 1 rfl ?_
      refine z_aldq (b := h3) C 1 rfl (by subst hu13 hu6; exact (isSheet_ix c9)) (by subst hu13 hu6; exact (hsq c9)) dX5_copy_26 ?_
      refine z_astore C [(0, .ref h5), (1, .int sk), (2, .int i), (3, .int so), (4, .int j), (5, .int n), (6, .ref h3)] dX5_copy_27 (by decide) [1, 2, 3, 4, 5, 6, 0] rfl ?_
      refine z_aload_n C dX5_copy_29 rfl 0 rfl ?_
      refine z_get (T := TX5) (v := .ref ash) C i_X5_copyD_5 0 rfl rfl 4 (by decide) m_X5_copyD_2 rfl rfl dX5_copy_30 ?_
      refine z_iload_n C dX5_copy_33 rfl 3 rfl ?_
      refine z_aldq (b := h3o) C 1 rfl (by subst hu13 hu6; exact (isSheet_ix c16)) (by subst hu13 hu6; exact (hsqo c16)) dX5_copy_34 ?_
      refine z_astore C [(0, .ref h5), (1, .int sk), (2, .int i), (3, .int so), (4, .int j), (5, .int n), (6, .ref h3), (7, .ref h3o)] dX5_copy_35 (by decide) [1, 2, 3, 4, 5, 6, 7, 0] rfl ?_
      refine z_aload C dX5_copy_37 6 rfl ?_
      refine z_cVR (As := []) C (c_X3_hasRow l D cI cO h3 b1 ln lg) (cwV 0 C.2.2.2.2.1 gX5_copy_X3_hasRow rfl rfl rfl hdV_X3_hasRow ⟨Nat.le_of_ble_eq_true rfl, Nat.le_of_ble_eq_true rfl⟩) [2] rfl rfl 2 rfl rfl rfl _ rfl (Nat.le_of_ble_eq_true rfl) ⟨Nat.zero_le _, Nat.zero_le _⟩ dX5_copy_39 ?_
      generalize hu39 : (F_X3_hasRow ln) = u39 at hf ⊢
      refine z_if_eq (tgt := 53) C dX5_copy_42 (by decide) (fun c42 => ?_) (fun c42 => ?_)
      · rw [if_pos c42] at hf
        have b42 := c42
        rw [← hu39] at c42
        refine z_aload_n C dX5_copy_53 rfl 0 rfl ?_
        refine z_iconst (v := (1 : Int32)) C dX5_copy_54 (by decide) ?_
        refine z_cVW (As := [.int (1 : Int32)]) C (c_X5_failed l D cI cO h5 ash tr (0 : Int32) h4 h2 h0 h1 (1 : Int32)) (cwV 1 C.2.2.2.2.1 gX5_copy_X5_failed rfl rfl rfl hdV_X5_failed ⟨Nat.le_of_ble_eq_true rfl, Nat.le_of_ble_eq_true rfl⟩) [(h5, .inr (5, [.ref h4, .ref h2, .ref h0, .ref h1, .ref ash, .int tr, .int ((F_X5_failed (1 : Int32)).2)])), (ash, .inl (cO, 4, .inr (.inr (.inr (.inr hq))))), (h3, .inr (3, [.ref b1, .int ln, .int lg])), (b1, .inl (cI, 60, .inl cl)), (h3o, .inr (3, [.ref b1o, .int lno, .int lgo])), (b1o, .inl (cI, 60, .inl clo))] [0] rfl rfl (Eq.refl [h5]) rfl 0 rfl rfl rfl _ rfl (Nat.le_of_ble_eq_true rfl) ⟨Nat.zero_le _, Nat.zero_le _⟩ dX5_copy_55 ?_
        generalize hu55 : (F_X5_failed (1 : Int32)) = u55 at hf ⊢
        exact z_iretW C hr hlk (by rw [hf]) (by rw [hf]) dX5_copy_58
      · rw [if_neg c42] at hf
        have b42 := c42
        rw [← hu39] at c42
        refine z_aload C dX5_copy_45 7 rfl ?_
        refine z_cVR (As := []) C (c_X3_hasRow l D cI cO h3o b1o lno lgo) (cwV 0 C.2.2.2.2.1 gX5_copy_X3_hasRow rfl rfl rfl hdV_X3_hasRow ⟨Nat.le_of_ble_eq_true rfl, Nat.le_of_ble_eq_true rfl⟩) [4] rfl rfl 4 rfl rfl rfl _ rfl (Nat.le_of_ble_eq_true rfl) ⟨Nat.zero_le _, Nat.zero_le _⟩ dX5_copy_47 ?_
        generalize hu47 : (F_X3_hasRow lno) = u47 at hf ⊢
        refine z_if_ne (tgt := 59) C dX5_copy_50 (by decide) (fun c50 => ?_) (fun c50 => ?_)
        · rw [if_neg c50] at hf
          have b50 := c50
          rw [← hu47] at c50
          refine z_aload C dX5_copy_59 6 rfl ?_
          refine z_get (T := TX3) (v := .int ln) C i_X5_copyD_3 2 rfl rfl 1 (by decide) m_X5_copyD_3 rfl rfl dX5_copy_61 ?_
          refine z_aload C dX5_copy_64 7 rfl ?_
          refine z_get (T := TX3) (v := .int lno) C i_X5_copyD_3 4 rfl rfl 1 (by decide) m_X5_copyD_3 rfl rfl dX5_copy_66 ?_
          refine z_icmp_eq (tgt := 78) C dX5_copy_69 (by decide) (fun c69 => ?_) (fun c69 => ?_)
          · rw [if_pos c69] at hf
            refine z_aload C dX5_copy_78 6 rfl ?_
            refine z_iload_n C dX5_copy_80 rfl 2 rfl ?_
            refine z_iload C dX5_copy_81 5 rfl ?_
            refine z_cVR (As := [.int i, .int n]) C (c_X3_hasCells l D cI cO h3 b1 ln lg i n) (cwV 2 C.2.2.2.2.1 gX5_copy_X3_hasCells rfl rfl rfl hdV_X3_hasCells ⟨Nat.le_of_ble_eq_true rfl, Nat.le_of_ble_eq_true rfl⟩) [2] rfl rfl 2 rfl rfl rfl _ rfl (Nat.le_of_ble_eq_true rfl) ⟨Nat.zero_le _, Nat.zero_le _⟩ dX5_copy_83 ?_
            generalize hu83 : (F_X3_hasCells lg i n) = u83 at hf ⊢
            refine z_if_eq (tgt := 101) C dX5_copy_86 (by decide) (fun c86 => ?_) (fun c86 => ?_)
            · rw [if_pos c86] at hf
              have b86 := c86
              rw [← hu83] at c86
              refine z_aload_n C dX5_copy_101 rfl 0 rfl ?_
              refine z_iconst (v := (3 : Int32)) C dX5_copy_102 (by decide) ?_
              refine z_cVW (As := [.int (3 : Int32)]) C (c_X5_failed l D cI cO h5 ash tr (0 : Int32) h4 h2 h0 h1 (3 : Int32)) (cwV 1 C.2.2.2.2.1 gX5_copy_X5_failed rfl rfl rfl hdV_X5_failed ⟨Nat.le_of_ble_eq_true rfl, Nat.le_of_ble_eq_true rfl⟩) [(h5, .inr (5, [.ref h4, .ref h2, .ref h0, .ref h1, .ref ash, .int tr, .int ((F_X5_failed (3 : Int32)).2)])), (ash, .inl (cO, 4, .inr (.inr (.inr (.inr hq))))), (h3, .inr (3, [.ref b1, .int ln, .int lg])), (b1, .inl (cI, 60, .inl cl)), (h3o, .inr (3, [.ref b1o, .int lno, .int lgo])), (b1o, .inl (cI, 60, .inl clo))] [0] rfl rfl (Eq.refl [h5]) rfl 0 rfl rfl rfl _ rfl (Nat.le_of_ble_eq_true rfl) ⟨Nat.zero_le _, Nat.zero_le _⟩ dX5_copy_103 ?_
              generalize hu103 : (F_X5_failed (3 : Int32)) = u103 at hf ⊢
              exact z_iretW C hr hlk (by rw [hf]) (by rw [hf]) dX5_copy_106
            · rw [if_neg c86] at hf
              have b86 := c86
              rw [← hu83] at c86
              refine z_aload C dX5_copy_89 7 rfl ?_
              refine z_iload C dX5_copy_91 4 rfl ?_
              refine z_iload C dX5_copy_93 5 rfl ?_
              refine z_cVR (As := [.int j, .int n]) C (c_X3_hasCells l D cI cO h3o b1o lno lgo j n) (cwV 2 C.2.2.2.2.1 gX5_copy_X3_hasCells rfl rfl rfl hdV_X3_hasCells ⟨Nat.le_of_ble_eq_true rfl, Nat.le_of_ble_eq_true rfl⟩) [4] rfl rfl 4 rfl rfl rfl _ rfl (Nat.le_of_ble_eq_true rfl) ⟨Nat.zero_le _, Nat.zero_le _⟩ dX5_copy_95 ?_
              generalize hu95 : (F_X3_hasCells lgo j n) = u95 at hf ⊢
              refine z_if_ne (tgt := 107) C dX5_copy_98 (by decide) (fun c98 => ?_) (fun c98 => ?_)
              · rw [if_neg c98] at hf
                have b98 := c98
                rw [← hu95] at c98
                refine z_aload C dX5_copy_107 6 rfl ?_
                refine z_get (T := TX3) (v := .ref b1) C i_X5_copyD_3 2 rfl rfl 0 (by decide) m_X5_copyD_4 rfl rfl dX5_copy_109 ?_
                refine z_iload_n C dX5_copy_112 rfl 2 rfl ?_
                refine z_aload C dX5_copy_113 7 rfl ?_
                refine z_get (T := TX3) (v := .ref b1o) C i_X5_copyD_3 4 rfl rfl 0 (by decide) m_X5_copyD_4 rfl rfl dX5_copy_115 ?_
                refine z_iload C dX5_copy_118 4 rfl ?_
                refine z_iload C dX5_copy_120 5 rfl ?_
                refine z_acopy C [(h5, .inr (5, [.ref h4, .ref h2, .ref h0, .ref h1, .ref ash, .int tr, .int (0 : Int32)])), (ash, .inl (cO, 4, .inr (.inr (.inr (.inr hq))))), (h3, .inr (3, [.ref b1, .int ln, .int lg])), (b1, .inl (cI, 60, .inl cl)), (h3o, .inr (3, [.ref b1o, .int lno, .int lgo])), (b1o, .inl (cI, 60, .inl (va_cpy cl clo i.toNatClampNeg j.toNatClampNeg n.toNatClampNeg)))] m_X5_copyD_5 m_X5_copyD_6 m_X5_copyD_7 m_X5_copyD_8 3 5 rfl rfl (hasCells_cp hlg c86).1 (hasCells_cp hlgo c98).1 (hasCells_cp hlg c86).2.1 (hasCells_cp hlg c86).2.2 (hasCells_cp hlgo c98).2.2 (by decide) (by decide) dX5_copy_122 rfl ?_
                refine z_iload C dX5_copy_125 5 rfl ?_
                exact z_iretW C hr hlk (by rw [hf]) (by rw [hf]) dX5_copy_127
              · rw [if_pos c98] at hf
                have b98 := c98
                rw [← hu95] at c98
                refine z_aload_n C dX5_copy_101 rfl 0 rfl ?_
                refine z_iconst (v := (3 : Int32)) C dX5_copy_102 (by decide) ?_
                refine z_cVW (As := [.int (3 : Int32)]) C (c_X5_failed l D cI cO h5 ash tr (0 : Int32) h4 h2 h0 h1 (3 : Int32)) (cwV 1 C.2.2.2.2.1 gX5_copy_X5_failed rfl rfl rfl hdV_X5_failed ⟨Nat.le_of_ble_eq_true rfl, Nat.le_of_ble_eq_true rfl⟩) [(h5, .inr (5, [.ref h4, .ref h2, .ref h0, .ref h1, .ref ash, .int tr, .int ((F_X5_failed (3 : Int32)).2)])), (ash, .inl (cO, 4, .inr (.inr (.inr (.inr hq))))), (h3, .inr (3, [.ref b1, .int ln, .int lg])), (b1, .inl (cI, 60, .inl cl)), (h3o, .inr (3, [.ref b1o, .int lno, .int lgo])), (b1o, .inl (cI, 60, .inl clo))] [0] rfl rfl (Eq.refl [h5]) rfl 0 rfl rfl rfl _ rfl (Nat.le_of_ble_eq_true rfl) ⟨Nat.zero_le _, Nat.zero_le _⟩ dX5_copy_103 ?_
                generalize hu103 : (F_X5_failed (3 : Int32)) = u103 at hf ⊢
                exact z_iretW C hr hlk (by rw [hf]) (by rw [hf]) dX5_copy_106
          · rw [if_neg c69] at hf
            refine z_aload_n C dX5_copy_72 rfl 0 rfl ?_
            refine z_iconst (v := (2 : Int32)) C dX5_copy_73 (by decide) ?_
            refine z_cVW (As := [.int (2 : Int32)]) C (c_X5_failed l D cI cO h5 ash tr (0 : Int32) h4 h2 h0 h1 (2 : Int32)) (cwV 1 C.2.2.2.2.1 gX5_copy_X5_failed rfl rfl rfl hdV_X5_failed ⟨Nat.le_of_ble_eq_true rfl, Nat.le_of_ble_eq_true rfl⟩) [(h5, .inr (5, [.ref h4, .ref h2, .ref h0, .ref h1, .ref ash, .int tr, .int ((F_X5_failed (2 : Int32)).2)])), (ash, .inl (cO, 4, .inr (.inr (.inr (.inr hq))))), (h3, .inr (3, [.ref b1, .int ln, .int lg])), (b1, .inl (cI, 60, .inl cl)), (h3o, .inr (3, [.ref b1o, .int lno, .int lgo])), (b1o, .inl (cI, 60, .inl clo))] [0] rfl rfl (Eq.refl [h5]) rfl 0 rfl rfl rfl _ rfl (Nat.le_of_ble_eq_true rfl) ⟨Nat.zero_le _, Nat.zero_le _⟩ dX5_copy_74 ?_
            generalize hu74 : (F_X5_failed (2 : Int32)) = u74 at hf ⊢
            exact z_iretW C hr hlk (by rw [hf]) (by rw [hf]) dX5_copy_77
        · rw [if_pos c50] at hf
          have b50 := c50
          rw [← hu47] at c50
          refine z_aload_n C dX5_copy_53 rfl 0 rfl ?_
          refine z_iconst (v := (1 : Int32)) C dX5_copy_54 (by decide) ?_
          refine z_cVW (As := [.int (1 : Int32)]) C (c_X5_failed l D cI cO h5 ash tr (0 : Int32) h4 h2 h0 h1 (1 : Int32)) (cwV 1 C.2.2.2.2.1 gX5_copy_X5_failed rfl rfl rfl hdV_X5_failed ⟨Nat.le_of_ble_eq_true rfl, Nat.le_of_ble_eq_true rfl⟩) [(h5, .inr (5, [.ref h4, .ref h2, .ref h0, .ref h1, .ref ash, .int tr, .int ((F_X5_failed (1 : Int32)).2)])), (ash, .inl (cO, 4, .inr (.inr (.inr (.inr hq))))), (h3, .inr (3, [.ref b1, .int ln, .int lg])), (b1, .inl (cI, 60, .inl cl)), (h3o, .inr (3, [.ref b1o, .int lno, .int lgo])), (b1o, .inl (cI, 60, .inl clo))] [0] rfl rfl (Eq.refl [h5]) rfl 0 rfl rfl rfl _ rfl (Nat.le_of_ble_eq_true rfl) ⟨Nat.zero_le _, Nat.zero_le _⟩ dX5_copy_55 ?_
          generalize hu55 : (F_X5_failed (1 : Int32)) = u55 at hf ⊢
          exact z_iretW C hr hlk (by rw [hf]) (by rw [hf]) dX5_copy_58
    · rw [if_pos c16] at hf
      have b16 := c16
      rw [← hu13] at c16
      refine z_iconst (v := (-1 : Int32)) C dX5_copy_19 (by decide) ?_
      exact z_iretW C hr hlk (by rw [hf]) (by rw [hf]) dX5_copy_20
-- X5_copyS
theorem i_X5_copyS_5 : ∀ w ∈ u_ws RX5 TX5 7, w ∈ wsX5_copy := by decide +kernel
theorem m_X5_copyS_1 : Cond.fieldLink RX5 46 "WishPins" "latestFault" "I" ∈ wsX5_copy := List.mem_of_getElem? (i := 1) rfl
theorem m_X5_copyS_2 : Cond.fieldLink RX5 41 "WishPins" "sheets" "[LWishPins$Sheet;" ∈ wsX5_copy := List.mem_of_getElem? (i := 2) rfl
theorem i_X5_copyS_3 : ∀ w ∈ u_ws RX3 TX3 3, w ∈ wsX5_copy := by decide +kernel
theorem m_X5_copyS_3 : Cond.fieldLink RX5 199 "WishPins$Sheet" "lane" "I" ∈ wsX5_copy := List.mem_of_getElem? (i := 3) rfl
theorem m_X5_copyS_4 : Cond.fieldLink RX5 202 "WishPins$Sheet" "cells" "[I" ∈ wsX5_copy := List.mem_of_getElem? (i := 4) rfl
theorem m_X5_copyS_5 : Cond.methodLink RX5 206 arraycopyName ∈ wsX5_copy := List.mem_of_getElem? (i := 5) rfl
theorem m_X5_copyS_6 : Cond.native arraycopyName ∈ wsX5_copy := List.mem_of_getElem? (i := 6) rfl
theorem m_X5_copyS_7 : Cond.static arraycopyName ∈ wsX5_copy := List.mem_of_getElem? (i := 7) rfl
theorem m_X5_copyS_8 : Cond.initialized "java/lang/System" ∈ wsX5_copy := List.mem_of_getElem? (i := 8) rfl
def F_X5_copyS (ln : Int32) (lg : Int32) (cl : Nat → Int32) (sk : Int32) (i : Int32) (so : Int32) (j : Int32) (n : Int32) : Int32 × Int32 × (Nat → Int32) :=
  (if (F_X5_isSheet sk) = 0 then ((-1 : Int32), (0 : Int32), cl) else (if (F_X5_isSheet so) = 0 then ((-1 : Int32), (0 : Int32), cl) else (if (F_X3_hasRow ln) = 0 then ((F_X5_failed (1 : Int32)).1, (F_X5_failed (1 : Int32)).2, cl) else (if ln = ln then (if (F_X3_hasCells lg i n) = 0 then ((F_X5_failed (3 : Int32)).1, (F_X5_failed (3 : Int32)).2, cl) else (if (F_X3_hasCells lg j n) = 0 then ((F_X5_failed (3 : Int32)).1, (F_X5_failed (3 : Int32)).2, cl) else (n, (0 : Int32), (va_cpy cl cl i.toNatClampNeg j.toNatClampNeg n.toNatClampNeg)))) else ((F_X5_failed (2 : Int32)).1, (F_X5_failed (2 : Int32)).2, cl)))))
set_option maxHeartbeats 4000000 in
set_option maxRecDepth 100000 in
theorem c_X5_copyS (l : Launch) (D : va_G) (cI cO : ClassId) (h5 : Nat) (ash : Nat) (tr : Int32) (ft : Int32) (hq : Nat → Option Nat) (h4 : Nat) (h2 : Nat) (h0 : Nat) (h1 : Nat) (h3 : Nat) (b1 : Nat) (ln : Int32) (lg : Int32) (cl : Nat → Int32) (sk : Int32) (i : Int32) (so : Int32) (j : Int32) (n : Int32) (hsq : ¬ F_X5_isSheet sk = 0 → hq sk.toNatClampNeg = some h3) (hsqo : ¬ F_X5_isSheet so = 0 → hq so.toNatClampNeg = some h3) (hlg : lg ≤ 60) : zW l yX5_copy wsX5_copy ({ frames := 1, cells := 0, slots := 0, locals := 40 } : Room) D cI cO [.ref h5, .int sk, .int i, .int so, .int j, .int n] [(h5, .inr (5, [.ref h4, .ref h2, .ref h0, .ref h1, .ref ash, .int tr, .int ft])), (ash, .inl (cO, 4, .inr (.inr (.inr (.inr hq))))), (h3, .inr (3, [.ref b1, .int ln, .int lg])), (b1, .inl (cI, 60, .inl cl))] [(h5, .inr (5, [.ref h4, .ref h2, .ref h0, .ref h1, .ref ash, .int tr, .int ((F_X5_copyS ln lg cl sk i so j n).2.1)])), (ash, .inl (cO, 4, .inr (.inr (.inr (.inr hq))))), (h3, .inr (3, [.ref b1, .int ln, .int lg])), (b1, .inl (cI, 60, .inl ((F_X5_copyS ln lg cl sk i so j n).2.2)))] (some (.int ((F_X5_copyS ln lg cl sk i so j n).1))) := by
  refine zW_of (nL := 8) (cc := cX5_copy) (ret := some .int) (lv := [(0, .ref h5), (1, .int sk), (2, .int i), (3, .int so), (4, .int j), (5, .int n)]) (by decide +kernel) rfl (Nat.le_of_ble_eq_true rfl) rfl (fun p e s m args below meth c C hr hlk => ?_)
  have hf := F_X5_copyS.eq_1 ln lg cl sk i so j n
  refine z_aload_n C dX5_copy_0 rfl 0 rfl ?_
  refine z_iconst (v := (0 : Int32)) C dX5_copy_1 (by decide) ?_
  refine z_put (T := TX5) (ty := .int) C [(h5, .inr (5, [.ref h4, .ref h2, .ref h0, .ref h1, .ref ash, .int tr, .int (0 : Int32)])), (ash, .inl (cO, 4, .inr (.inr (.inr (.inr hq))))), (h3, .inr (3, [.ref b1, .int ln, .int lg])), (b1, .inl (cI, 60, .inl cl))] i_X5_copyS_5 tyX5 tyX5_ok nmX5 0 rfl rfl 6 (by decide) m_X5_copyS_1 rfl rfl (by decide +kernel) rfl rfl (Nat.le_of_ble_eq_true rfl) dX5_copy_2 rfl ?_
  refine z_iload_n C dX5_copy_5 rfl 1 rfl ?_
  refine z_cSR (As := [.int sk]) C (c_X5_isSheet l D cI cO sk) (va_cwS 1 C.2.2.2.2.1 gX5_copy_X5_isSheet rfl rfl rfl hdS_X5_isSheet ⟨Nat.le_of_ble_eq_true rfl, Nat.le_of_ble_eq_true rfl⟩) [] rfl rfl rfl _ rfl (Nat.le_of_ble_eq_true rfl) ⟨Nat.zero_le _, Nat.zero_le _⟩ dX5_copy_6 ?_
  generalize hu6 : (F_X5_isSheet sk) = u6 at hf ⊢
  refine z_if_eq (tgt := 19) C dX5_copy_9 (by decide) (fun c9 => ?_) (fun c9 => ?_)
  · rw [if_pos c9] at hf
    have b9 := c9
    rw [← hu6] at c9
    refine z_iconst (v := (-1 : Int32)) C dX5_copy_19 (by decide) ?_
    exact z_iretW C hr hlk (by rw [hf]) (by rw [hf]) dX5_copy_20
  · rw [if_neg c9] at hf
    have b9 := c9
    rw [← hu6] at c9
    refine z_iload_n C dX5_copy_12 rfl 3 rfl ?_
    refine z_cSR (As := [.int so]) C (c_X5_isSheet l D cI cO so) (va_cwS 1 C.2.2.2.2.1 gX5_copy_X5_isSheet rfl rfl rfl hdS_X5_isSheet ⟨Nat.le_of_ble_eq_true rfl, Nat.le_of_ble_eq_true rfl⟩) [] rfl rfl rfl _ rfl (Nat.le_of_ble_eq_true rfl) ⟨Nat.zero_le _, Nat.zero_le _⟩ dX5_copy_13 ?_
    generalize hu13 : (F_X5_isSheet so) = u13 at hf ⊢
    refine z_if_ne (tgt := 21) C dX5_copy_16 (by decide) (fun c16 => ?_) (fun c16 => ?_)
    · rw [if_neg c16] at hf
      have b16 := c16
      rw [← hu13] at c16
      refine z_aload_n C dX5_copy_21 rfl 0 rfl ?_
      refine z_get (T := TX5) (v := .ref ash) C i_X5_copyS_5 0 rfl rfl 4 (by decide) m_X5_copyS_2 rfl rfl dX5_copy_22 ?_
      refine z_iload_n C dX5_copy_25 rfl 1 rfl ?_
      refine z_aldq (b := h3) C 1 rfl (by subst hu13 hu6; exact (isSheet_ix c9)) (by subst hu13 hu6; exact (hsq c9)) dX5_copy_26 ?_
      refine z_astore C [(0, .ref h5), (1, .int sk), (2, .int i), (3, .int so), (4, .int j), (5, .int n), (6, .ref h3)] dX5_copy_27 (by decide) [1, 2, 3, 4, 5, 6, 0] rfl ?_
      refine z_aload_n C dX5_copy_29 rfl 0 rfl ?_
      refine z_get (T := TX5) (v := .ref ash) C i_X5_copyS_5 0 rfl rfl 4 (by decide) m_X5_copyS_2 rfl rfl dX5_copy_30 ?_
      refine z_iload_n C dX5_copy_33 rfl 3 rfl ?_
      refine z_aldq (b := h3) C 1 rfl (by subst hu13 hu6; exact (isSheet_ix c16)) (by subst hu13 hu6; exact (hsqo c16)) dX5_copy_34 ?_
      refine z_astore C [(0, .ref h5), (1, .int sk), (2, .int i), (3, .int so), (4, .int j), (5, .int n), (6, .ref h3), (7, .ref h3)] dX5_copy_35 (by decide) [1, 2, 3, 4, 5, 6, 7, 0] rfl ?_
      refine z_aload C dX5_copy_37 6 rfl ?_
      refine z_cVR (As := []) C (c_X3_hasRow l D cI cO h3 b1 ln lg) (cwV 0 C.2.2.2.2.1 gX5_copy_X3_hasRow rfl rfl rfl hdV_X3_hasRow ⟨Nat.le_of_ble_eq_true rfl, Nat.le_of_ble_eq_true rfl⟩) [2] rfl rfl 2 rfl rfl rfl _ rfl (Nat.le_of_ble_eq_true rfl) ⟨Nat.zero_le _, Nat.zero_le _⟩ dX5_copy_39 ?_
      generalize hu39 : (F_X3_hasRow ln) = u39 at hf ⊢
      refine z_if_eq (tgt := 53) C dX5_copy_42 (by decide) (fun c42 => ?_) (fun c42 => ?_)
      · rw [if_pos c42] at hf
        have b42 := c42
        rw [← hu39] at c42
        refine z_aload_n C dX5_copy_53 rfl 0 rfl ?_
        refine z_iconst (v := (1 : Int32)) C dX5_copy_54 (by decide) ?_
        refine z_cVW (As := [.int (1 : Int32)]) C (c_X5_failed l D cI cO h5 ash tr (0 : Int32) h4 h2 h0 h1 (1 : Int32)) (cwV 1 C.2.2.2.2.1 gX5_copy_X5_failed rfl rfl rfl hdV_X5_failed ⟨Nat.le_of_ble_eq_true rfl, Nat.le_of_ble_eq_true rfl⟩) [(h5, .inr (5, [.ref h4, .ref h2, .ref h0, .ref h1, .ref ash, .int tr, .int ((F_X5_failed (1 : Int32)).2)])), (ash, .inl (cO, 4, .inr (.inr (.inr (.inr hq))))), (h3, .inr (3, [.ref b1, .int ln, .int lg])), (b1, .inl (cI, 60, .inl cl))] [0] rfl rfl (Eq.refl [h5]) rfl 0 rfl rfl rfl _ rfl (Nat.le_of_ble_eq_true rfl) ⟨Nat.zero_le _, Nat.zero_le _⟩ dX5_copy_55 ?_
        generalize hu55 : (F_X5_failed (1 : Int32)) = u55 at hf ⊢
        exact z_iretW C hr hlk (by rw [hf]) (by rw [hf]) dX5_copy_58
      · rw [if_neg c42] at hf
        have b42 := c42
        rw [← hu39] at c42
        refine z_aload C dX5_copy_45 7 rfl ?_
        refine z_cVR (As := []) C (c_X3_hasRow l D cI cO h3 b1 ln lg) (cwV 0 C.2.2.2.2.1 gX5_copy_X3_hasRow rfl rfl rfl hdV_X3_hasRow ⟨Nat.le_of_ble_eq_true rfl, Nat.le_of_ble_eq_true rfl⟩) [2] rfl rfl 2 rfl rfl rfl _ rfl (Nat.le_of_ble_eq_true rfl) ⟨Nat.zero_le _, Nat.zero_le _⟩ dX5_copy_47 ?_
        rw [hu39]
        refine z_if_ne (tgt := 59) C dX5_copy_50 (by decide) (fun _ => ?_) (fun h9 => absurd h9 b42)
        refine z_aload C dX5_copy_59 6 rfl ?_
        refine z_get (T := TX3) (v := .int ln) C i_X5_copyS_3 2 rfl rfl 1 (by decide) m_X5_copyS_3 rfl rfl dX5_copy_61 ?_
        refine z_aload C dX5_copy_64 7 rfl ?_
        refine z_get (T := TX3) (v := .int ln) C i_X5_copyS_3 2 rfl rfl 1 (by decide) m_X5_copyS_3 rfl rfl dX5_copy_66 ?_
        refine z_icmp_eq (tgt := 78) C dX5_copy_69 (by decide) (fun c69 => ?_) (fun c69 => ?_)
        · rw [if_pos c69] at hf
          refine z_aload C dX5_copy_78 6 rfl ?_
          refine z_iload_n C dX5_copy_80 rfl 2 rfl ?_
          refine z_iload C dX5_copy_81 5 rfl ?_
          refine z_cVR (As := [.int i, .int n]) C (c_X3_hasCells l D cI cO h3 b1 ln lg i n) (cwV 2 C.2.2.2.2.1 gX5_copy_X3_hasCells rfl rfl rfl hdV_X3_hasCells ⟨Nat.le_of_ble_eq_true rfl, Nat.le_of_ble_eq_true rfl⟩) [2] rfl rfl 2 rfl rfl rfl _ rfl (Nat.le_of_ble_eq_true rfl) ⟨Nat.zero_le _, Nat.zero_le _⟩ dX5_copy_83 ?_
          generalize hu83 : (F_X3_hasCells lg i n) = u83 at hf ⊢
          refine z_if_eq (tgt := 101) C dX5_copy_86 (by decide) (fun c86 => ?_) (fun c86 => ?_)
          · rw [if_pos c86] at hf
            have b86 := c86
            rw [← hu83] at c86
            refine z_aload_n C dX5_copy_101 rfl 0 rfl ?_
            refine z_iconst (v := (3 : Int32)) C dX5_copy_102 (by decide) ?_
            refine z_cVW (As := [.int (3 : Int32)]) C (c_X5_failed l D cI cO h5 ash tr (0 : Int32) h4 h2 h0 h1 (3 : Int32)) (cwV 1 C.2.2.2.2.1 gX5_copy_X5_failed rfl rfl rfl hdV_X5_failed ⟨Nat.le_of_ble_eq_true rfl, Nat.le_of_ble_eq_true rfl⟩) [(h5, .inr (5, [.ref h4, .ref h2, .ref h0, .ref h1, .ref ash, .int tr, .int ((F_X5_failed (3 : Int32)).2)])), (ash, .inl (cO, 4, .inr (.inr (.inr (.inr hq))))), (h3, .inr (3, [.ref b1, .int ln, .int lg])), (b1, .inl (cI, 60, .inl cl))] [0] rfl rfl (Eq.refl [h5]) rfl 0 rfl rfl rfl _ rfl (Nat.le_of_ble_eq_true rfl) ⟨Nat.zero_le _, Nat.zero_le _⟩ dX5_copy_103 ?_
            generalize hu103 : (F_X5_failed (3 : Int32)) = u103 at hf ⊢
            exact z_iretW C hr hlk (by rw [hf]) (by rw [hf]) dX5_copy_106
          · rw [if_neg c86] at hf
            have b86 := c86
            rw [← hu83] at c86
            refine z_aload C dX5_copy_89 7 rfl ?_
            refine z_iload C dX5_copy_91 4 rfl ?_
            refine z_iload C dX5_copy_93 5 rfl ?_
            refine z_cVR (As := [.int j, .int n]) C (c_X3_hasCells l D cI cO h3 b1 ln lg j n) (cwV 2 C.2.2.2.2.1 gX5_copy_X3_hasCells rfl rfl rfl hdV_X3_hasCells ⟨Nat.le_of_ble_eq_true rfl, Nat.le_of_ble_eq_true rfl⟩) [2] rfl rfl 2 rfl rfl rfl _ rfl (Nat.le_of_ble_eq_true rfl) ⟨Nat.zero_le _, Nat.zero_le _⟩ dX5_copy_95 ?_
            generalize hu95 : (F_X3_hasCells lg j n) = u95 at hf ⊢
            refine z_if_ne (tgt := 107) C dX5_copy_98 (by decide) (fun c98 => ?_) (fun c98 => ?_)
            · rw [if_neg c98] at hf
              have b98 := c98
              rw [← hu95] at c98
              refine z_aload C dX5_copy_107 6 rfl ?_
              refine z_get (T := TX3) (v := .ref b1) C i_X5_copyS_3 2 rfl rfl 0 (by decide) m_X5_copyS_4 rfl rfl dX5_copy_109 ?_
              refine z_iload_n C dX5_copy_112 rfl 2 rfl ?_
              refine z_aload C dX5_copy_113 7 rfl ?_
              refine z_get (T := TX3) (v := .ref b1) C i_X5_copyS_3 2 rfl rfl 0 (by decide) m_X5_copyS_4 rfl rfl dX5_copy_115 ?_
              refine z_iload C dX5_copy_118 4 rfl ?_
              refine z_iload C dX5_copy_120 5 rfl ?_
              refine z_acopy C [(h5, .inr (5, [.ref h4, .ref h2, .ref h0, .ref h1, .ref ash, .int tr, .int (0 : Int32)])), (ash, .inl (cO, 4, .inr (.inr (.inr (.inr hq))))), (h3, .inr (3, [.ref b1, .int ln, .int lg])), (b1, .inl (cI, 60, .inl (va_cpy cl cl i.toNatClampNeg j.toNatClampNeg n.toNatClampNeg)))] m_X5_copyS_5 m_X5_copyS_6 m_X5_copyS_7 m_X5_copyS_8 3 3 rfl rfl (hasCells_cp hlg c86).1 (hasCells_cp hlg c98).1 (hasCells_cp hlg c86).2.1 (hasCells_cp hlg c86).2.2 (hasCells_cp hlg c98).2.2 (by decide) (by decide) dX5_copy_122 rfl ?_
              refine z_iload C dX5_copy_125 5 rfl ?_
              exact z_iretW C hr hlk (by rw [hf]) (by rw [hf]) dX5_copy_127
            · rw [if_pos c98] at hf
              have b98 := c98
              rw [← hu95] at c98
              refine z_aload_n C dX5_copy_101 rfl 0 rfl ?_
              refine z_iconst (v := (3 : Int32)) C dX5_copy_102 (by decide) ?_
              refine z_cVW (As := [.int (3 : Int32)]) C (c_X5_failed l D cI cO h5 ash tr (0 : Int32) h4 h2 h0 h1 (3 : Int32)) (cwV 1 C.2.2.2.2.1 gX5_copy_X5_failed rfl rfl rfl hdV_X5_failed ⟨Nat.le_of_ble_eq_true rfl, Nat.le_of_ble_eq_true rfl⟩) [(h5, .inr (5, [.ref h4, .ref h2, .ref h0, .ref h1, .ref ash, .int tr, .int ((F_X5_failed (3 : Int32)).2)])), (ash, .inl (cO, 4, .inr (.inr (.inr (.inr hq))))), (h3, .inr (3, [.ref b1, .int ln, .int lg])), (b1, .inl (cI, 60, .inl cl))] [0] rfl rfl (Eq.refl [h5]) rfl 0 rfl rfl rfl _ rfl (Nat.le_of_ble_eq_true rfl) ⟨Nat.zero_le _, Nat.zero_le _⟩ dX5_copy_103 ?_
              generalize hu103 : (F_X5_failed (3 : Int32)) = u103 at hf ⊢
              exact z_iretW C hr hlk (by rw [hf]) (by rw [hf]) dX5_copy_106
        · rw [if_neg c69] at hf
          refine z_aload_n C dX5_copy_72 rfl 0 rfl ?_
          refine z_iconst (v := (2 : Int32)) C dX5_copy_73 (by decide) ?_
          refine z_cVW (As := [.int (2 : Int32)]) C (c_X5_failed l D cI cO h5 ash tr (0 : Int32) h4 h2 h0 h1 (2 : Int32)) (cwV 1 C.2.2.2.2.1 gX5_copy_X5_failed rfl rfl rfl hdV_X5_failed ⟨Nat.le_of_ble_eq_true rfl, Nat.le_of_ble_eq_true rfl⟩) [(h5, .inr (5, [.ref h4, .ref h2, .ref h0, .ref h1, .ref ash, .int tr, .int ((F_X5_failed (2 : Int32)).2)])), (ash, .inl (cO, 4, .inr (.inr (.inr (.inr hq))))), (h3, .inr (3, [.ref b1, .int ln, .int lg])), (b1, .inl (cI, 60, .inl cl))] [0] rfl rfl (Eq.refl [h5]) rfl 0 rfl rfl rfl _ rfl (Nat.le_of_ble_eq_true rfl) ⟨Nat.zero_le _, Nat.zero_le _⟩ dX5_copy_74 ?_
          generalize hu74 : (F_X5_failed (2 : Int32)) = u74 at hf ⊢
          exact z_iretW C hr hlk (by rw [hf]) (by rw [hf]) dX5_copy_77
    · rw [if_pos c16] at hf
      have b16 := c16
      rw [← hu13] at c16
      refine z_iconst (v := (-1 : Int32)) C dX5_copy_19 (by decide) ?_
      exact z_iretW C hr hlk (by rw [hf]) (by rw [hf]) dX5_copy_20
