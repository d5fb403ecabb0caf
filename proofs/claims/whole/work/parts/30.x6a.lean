-- X6_in
def F_X6_in (v : Int64) (lo : Int64) (hi : Int64) : Int32 :=
  (if (lg_cmp v lo) < 0 then (0 : Int32) else (if 0 < (lg_cmp v hi) then (0 : Int32) else (1 : Int32)))
set_option maxHeartbeats 4000000 in
set_option maxRecDepth 100000 in
theorem c_X6_in (l : Launch) (D : va_G) (cI cO : ClassId) (v : Int64) (lo : Int64) (hi : Int64) : zR l yX6_in wsX6_in ({ frames := 0, cells := 0, slots := 0, locals := 0 } : Room) D cI cO [.long v, .long lo, .long hi] [] (some (.int (F_X6_in v lo hi))) := by
  refine zR_of (nL := 6) (cc := cX6_in) (ret := some .boolean) (lv := [(0, .long v), (2, .long lo), (4, .long hi)]) (by decide +kernel) rfl (Nat.le_of_ble_eq_true rfl) rfl (fun p e s m args below meth c C hr hlk => ?_)
  have hf := F_X6_in.eq_1 v lo hi
  refine z_lload_n C dX6_in_0 rfl 0 rfl ?_
  refine z_lload_n C dX6_in_1 rfl 1 rfl ?_
  refine z_lcmp C dX6_in_2 ?_
  refine z_if_lt (tgt := 17) C dX6_in_3 (by decide) (fun c3 => ?_) (fun c3 => ?_)
  · rw [if_pos c3] at hf
    refine z_iconst (v := (0 : Int32)) C dX6_in_17 (by decide) ?_
    exact z_zretR C hr hlk rfl (by rw [hf]) dX6_in_18
  · rw [if_neg c3] at hf
    refine z_lload_n C dX6_in_6 rfl 0 rfl ?_
    refine z_lload C dX6_in_7 2 rfl ?_
    refine z_lcmp C dX6_in_9 ?_
    refine z_if_gt (tgt := 17) C dX6_in_10 (by decide) (fun c10 => ?_) (fun c10 => ?_)
    · rw [if_pos c10] at hf
      refine z_iconst (v := (0 : Int32)) C dX6_in_17 (by decide) ?_
      exact z_zretR C hr hlk rfl (by rw [hf]) dX6_in_18
    · rw [if_neg c10] at hf
      refine z_iconst (v := (1 : Int32)) C dX6_in_13 (by decide) ?_
      refine z_goto (tgt := 18) C dX6_in_14 (by decide) ?_
      exact z_zretR C hr hlk rfl (by rw [hf]) dX6_in_18
-- X6_lost
theorem m_X6_lost_1 : Cond.constantLong RX6 58 (-9223372036854775808) ∈ wsX6_lost := List.mem_of_getElem? (i := 1) rfl
def F_X6_lost : Int64 :=
  (-9223372036854775808 : Int64)
set_option maxHeartbeats 4000000 in
set_option maxRecDepth 100000 in
theorem c_X6_lost (l : Launch) (D : va_G) (cI cO : ClassId) : zR l yX6_lost wsX6_lost ({ frames := 0, cells := 0, slots := 0, locals := 0 } : Room) D cI cO [] [] (some (.long (F_X6_lost))) := by
  refine zR_of (nL := 0) (cc := cX6_lost) (ret := some .long) (lv := []) (by decide +kernel) rfl (Nat.le_of_ble_eq_true rfl) rfl (fun p e s m args below meth c C hr hlk => ?_)
  have hf := F_X6_lost.eq_1
  refine z_ldc2 C m_X6_lost_1 dX6_lost_0 ?_
  exact z_lretR C hr hlk (by rw [hf]) dX6_lost_3
-- X6_isIn
def F_X6_isIn (t : Int32) (k : Int32) : Int32 :=
  (if ((t >>> (k &&& 31)) &&& (1 : Int32)) = (1 : Int32) then (1 : Int32) else (0 : Int32))
set_option maxHeartbeats 4000000 in
set_option maxRecDepth 100000 in
theorem c_X6_isIn (l : Launch) (D : va_G) (cI cO : ClassId) (t : Int32) (k : Int32) : zR l yX6_isIn wsX6_isIn ({ frames := 0, cells := 0, slots := 0, locals := 0 } : Room) D cI cO [.int t, .int k] [] (some (.int (F_X6_isIn t k))) := by
  refine zR_of (nL := 2) (cc := cX6_isIn) (ret := some .boolean) (lv := [(0, .int t), (1, .int k)]) (by decide +kernel) rfl (Nat.le_of_ble_eq_true rfl) rfl (fun p e s m args below meth c C hr hlk => ?_)
  have hf := F_X6_isIn.eq_1 t k
  refine z_iload_n C dX6_isIn_0 rfl 0 rfl ?_
  refine z_iload_n C dX6_isIn_1 rfl 1 rfl ?_
  refine z_ishr C dX6_isIn_2 ?_
  refine z_iconst (v := (1 : Int32)) C dX6_isIn_3 (by decide) ?_
  refine z_iand C dX6_isIn_4 ?_
  refine z_iconst (v := (1 : Int32)) C dX6_isIn_5 (by decide) ?_
  refine z_icmp_ne (tgt := 13) C dX6_isIn_6 (by decide) (fun c6 => ?_) (fun c6 => ?_)
  · rw [if_neg c6] at hf
    refine z_iconst (v := (0 : Int32)) C dX6_isIn_13 (by decide) ?_
    exact z_zretR C hr hlk rfl (by rw [hf]) dX6_isIn_14
  · rw [if_pos c6] at hf
    refine z_iconst (v := (1 : Int32)) C dX6_isIn_9 (by decide) ?_
    refine z_goto (tgt := 14) C dX6_isIn_10 (by decide) ?_
    exact z_zretR C hr hlk rfl (by rw [hf]) dX6_isIn_14
theorem lg_lt (x y : Int64) : lg_cmp x y < 0 ↔ x.toInt < y.toInt := by
  have h := lg_cmp_ge x y
  rw [Int64.le_iff_toInt_le] at h
  constructor
  · intro q
    have : ¬ 0 ≤ lg_cmp x y := Int32.not_le.mpr q
    have := mt h.mpr this
    omega
  · intro q
    exact Int32.not_le.mp (mt h.mp (by omega))
theorem lg_gt (x y : Int64) : 0 < lg_cmp x y ↔ y.toInt < x.toInt := by
  unfold lg_cmp
  simp only [gt_iff_lt, Int64.lt_iff_toInt_lt, ← Int64.toInt_inj]
  by_cases h1 : y.toInt < x.toInt
  · rw [if_pos h1]; exact ⟨fun _ => h1, fun _ => by decide⟩
  · rw [if_neg h1]
    by_cases h2 : x.toInt = y.toInt
    · rw [if_pos h2]; exact ⟨fun q => absurd q (by decide), fun q => absurd q h1⟩
    · rw [if_neg h2]; exact ⟨fun q => absurd q (by decide), fun q => absurd q h1⟩
theorem lg_eq (x y : Int64) : lg_cmp x y = 0 ↔ x.toInt = y.toInt := by
  unfold lg_cmp
  simp only [gt_iff_lt, Int64.lt_iff_toInt_lt, ← Int64.toInt_inj]
  by_cases h1 : y.toInt < x.toInt
  · rw [if_pos h1]; exact ⟨fun q => absurd q (by decide), fun q => absurd q (by omega)⟩
  · rw [if_neg h1]
    by_cases h2 : x.toInt = y.toInt
    · rw [if_pos h2]; exact ⟨fun _ => h2, fun _ => rfl⟩
    · rw [if_neg h2]; exact ⟨fun q => absurd q (by decide), fun q => absurd q h2⟩
theorem in_iff (v lo hi : Int64) : F_X6_in v lo hi = 0 ↔ v.toInt < lo.toInt ∨ hi.toInt < v.toInt := by
  rw [F_X6_in]
  have a := lg_lt v lo
  have b := lg_gt v hi
  by_cases h1 : lg_cmp v lo < 0
  · rw [if_pos h1]; exact ⟨fun _ => Or.inl (a.mp h1), fun _ => rfl⟩
  · rw [if_neg h1]
    by_cases h2 : 0 < lg_cmp v hi
    · rw [if_pos h2]; exact ⟨fun _ => Or.inr (b.mp h2), fun _ => rfl⟩
    · rw [if_neg h2]
      refine ⟨fun q => absurd q (by decide), fun q => ?_⟩
      rcases q with q | q
      · exact absurd (a.mpr q) h1
      · exact absurd (b.mpr q) h2
theorem in_b (v lo hi : Int64) : F_X6_in v lo hi = 0 ∨ F_X6_in v lo hi = 1 := by
  rw [F_X6_in]
  split
  · exact Or.inl rfl
  · split
    · exact Or.inl rfl
    · exact Or.inr rfl
theorem l_ti (x : Int32) : x.toInt64.toInt = x.toInt := by simp
theorem l_ti1 (x : Int32) : (x.toInt64 - 1).toInt = x.toInt - 1 := by
  rw [Int64.toInt_sub, l_ti]
  have h1 := Int32.le_toInt x
  have h2 := Int32.toInt_lt x
  have e : (1 : Int64).toInt = 1 := by decide
  rw [e]
  apply Int.bmod_eq_of_le <;> omega
-- X6_bits
def F_X6_bits_k4 (x1_4 : Int32) (x2_4 : Int32) : Int32 :=
  x1_4
def F_X6_bits_l4 (K_ : Int32 → Int32 → Int32) : Nat → Int32 → Int32 → Int32
  | 0, x1_4, x2_4 => K_ x1_4 x2_4
  | d4 + 1, x1_4, x2_4 => (if x2_4 ≤ 0 then (K_ x1_4 x2_4) else (F_X6_bits_l4 K_ d4 (x1_4 + (x2_4 &&& (1 : Int32))) (x2_4 >>> ((1 : Int32) &&& 31))))
def F_X6_bits (t : Int32) : Int32 :=
  (F_X6_bits_l4 F_X6_bits_k4 513 (0 : Int32) t)
set_option maxHeartbeats 4000000 in
set_option maxRecDepth 100000 in
theorem c_X6_bits (l : Launch) (D : va_G) (cI cO : ClassId) (t : Int32) (s0 : Nat) (hs0 : t = nI s0) (hs1 : s0 < 512) : zR l yX6_bits wsX6_bits ({ frames := 0, cells := 0, slots := 0, locals := 0 } : Room) D cI cO [.int t] [] (some (.int (F_X6_bits t))) := by
  refine zR_of (nL := 3) (cc := cX6_bits) (ret := some .int) (lv := [(0, .int t)]) (by decide +kernel) rfl (Nat.le_of_ble_eq_true rfl) rfl (fun p e s m args below meth c C hr hlk => ?_)
  have hf := F_X6_bits.eq_1 t
  refine z_iconst (v := (0 : Int32)) C dX6_bits_0 (by decide) ?_
  refine z_istore_n C [(0, .int t), (1, .int (0 : Int32))] dX6_bits_1 rfl (by decide) [1, 0] rfl ?_
  refine z_iload_n C dX6_bits_2 rfl 0 rfl ?_
  refine z_istore_n C [(0, .int t), (1, .int (0 : Int32)), (2, .int t)] dX6_bits_3 rfl (by decide) [1, 2, 0] rfl ?_
  have X4 : ∀ (x1_4 : Int32) (x2_4 : Int32), F_X6_bits t = F_X6_bits_k4 x1_4 x2_4 → zG p l e ({ frames := 0, cells := 0, slots := 0, locals := 0 } : Room) s m args below meth c D (fun _ => True) (zXr s) 3 0 0 (MQ below (zQr (some (.int (F_X6_bits t)))) args s 0 0 (fun _ => False)) 21 [(0, .int t), (1, .int x1_4), (2, .int x2_4)] [] [] := by
    intro x1_4 x2_4 hf
    rw [F_X6_bits_k4] at hf
    skip
    refine z_iload_n C dX6_bits_21 rfl 1 rfl ?_
    exact z_iretR C hr hlk (by rw [hf]) dX6_bits_22
  have L4 : ∀ (d4 : Nat) (a : Nat) (x1_4 : Int32) (x2_4 : Int32) (e2 : x2_4 = nI a) (ha : a < 512) (hd : a < d4), F_X6_bits t = F_X6_bits_l4 F_X6_bits_k4 d4 x1_4 x2_4 → zG p l e ({ frames := 0, cells := 0, slots := 0, locals := 0 } : Room) s m args below meth c D (fun _ => True) (zXr s) 3 0 0 (MQ below (zQr (some (.int (F_X6_bits t)))) args s 0 0 (fun _ => False)) 4 [(0, .int t), (1, .int x1_4), (2, .int x2_4)] [] [] := by
    intro d4
    induction d4 with
    | zero =>
      intro a x1_4 x2_4 e2 ha hd hf
      exfalso; omega
    | succ d4 ih4 =>
      intro a x1_4 x2_4 e2 ha hd hf
      rw [F_X6_bits_l4] at hf
      skip
      refine z_iload_n C dX6_bits_4 rfl 2 rfl ?_
      refine z_if_le (tgt := 21) C dX6_bits_5 (by decide) (fun c5 => ?_) (fun c5 => ?_)
      · rw [if_pos c5] at hf
        exact X4 x1_4 x2_4  hf
      · rw [if_neg c5] at hf
        refine z_iload_n C dX6_bits_8 rfl 1 rfl ?_
        refine z_iload_n C dX6_bits_9 rfl 2 rfl ?_
        refine z_iconst (v := (1 : Int32)) C dX6_bits_10 (by decide) ?_
        refine z_iand C dX6_bits_11 ?_
        refine z_iadd C dX6_bits_12 ?_
        refine z_istore_n C [(0, .int t), (1, .int (x1_4 + (x2_4 &&& (1 : Int32)))), (2, .int x2_4)] dX6_bits_13 rfl (by decide) [1, 0, 2] rfl ?_
        refine z_iload_n C dX6_bits_14 rfl 2 rfl ?_
        refine z_iconst (v := (1 : Int32)) C dX6_bits_15 (by decide) ?_
        refine z_ishr C dX6_bits_16 ?_
        refine z_istore_n C [(0, .int t), (1, .int (x1_4 + (x2_4 &&& (1 : Int32)))), (2, .int (x2_4 >>> ((1 : Int32) &&& 31)))] dX6_bits_17 rfl (by decide) [1, 2, 0] rfl ?_
        refine z_goto (tgt := 4) C dX6_bits_18 (by decide) ?_
        exact ih4 (a / 2) (x1_4 + (x2_4 &&& (1 : Int32))) (x2_4 >>> ((1 : Int32) &&& 31)) (by rw [e2]; exact pk_shrN (by omega) _ 1 (by decide)) (by omega) (by have := z_jnle (n := 0) e2 (by omega) (by decide) c5; omega) hf
  exact L4 513 s0 (0 : Int32) t hs0 hs1 (by omega) hf
-- X6_refused
theorem i_X6_refused_6 : ∀ w ∈ u_ws RX6 TX6 30, w ∈ wsX6_refused := by decide +kernel
theorem m_X6_refused_1 : Cond.fieldLink RX6 60 "WishPinsModel" "fault" "I" ∈ wsX6_refused := List.mem_of_getElem? (i := 1) rfl
def F_X6_refused (k : Int32) : Int32 × Int32 :=
  (k, (0 : Int32))
set_option maxHeartbeats 4000000 in
set_option maxRecDepth 100000 in
theorem c_X6_refused (l : Launch) (D : va_G) (cI cO : ClassId) (h6 : Nat) (q : Nat → Nat) (fl : Int32) (pn : Int32) (sl : Int32) (dr : Int32) (yn : Int32) (ra : Int32) (rp : Int32) (rs : Int32) (rd : Int32) (ry : Int32) (pk : Int32) (yk : Int32) (rg : Int32) (tc : Int32) (k : Int32) : zW l yX6_refused wsX6_refused ({ frames := 0, cells := 0, slots := 0, locals := 0 } : Room) D cI cO [.ref h6, .int k] [(h6, .inr (6, fM fl pn sl dr yn ra rp rs rd ry pk yk rg tc q))] [(h6, .inr (6, fM ((F_X6_refused k).2) pn sl dr yn ra rp rs rd ry pk yk rg tc q))] (some (.int ((F_X6_refused k).1))) := by
  refine zW_of (nL := 2) (cc := cX6_refused) (ret := some .int) (lv := [(0, .ref h6), (1, .int k)]) (by decide +kernel) rfl (Nat.le_of_ble_eq_true rfl) rfl (fun p e s m args below meth c C hr hlk => ?_)
  have hf := F_X6_refused.eq_1 k
  refine z_aload_n C dX6_refused_0 rfl 0 rfl ?_
  refine z_iconst (v := (0 : Int32)) C dX6_refused_1 (by decide) ?_
  refine z_put (T := TX6) (ty := .int) C [(h6, .inr (6, fM (0 : Int32) pn sl dr yn ra rp rs rd ry pk yk rg tc q))] i_X6_refused_6 tyX6 tyX6_ok nmX6 0 rfl rfl 0 (by decide) m_X6_refused_1 rfl rfl (by decide +kernel) rfl rfl (Nat.le_of_ble_eq_true rfl) dX6_refused_2 rfl ?_
  refine z_iload_n C dX6_refused_5 rfl 1 rfl ?_
  exact z_iretW C hr hlk (by rw [hf]) (by rw [hf]) dX6_refused_6
-- X6_failed
theorem i_X6_failed_6 : ∀ w ∈ u_ws RX6 TX6 30, w ∈ wsX6_failed := by decide +kernel
theorem m_X6_failed_1 : Cond.fieldLink RX6 60 "WishPinsModel" "fault" "I" ∈ wsX6_failed := List.mem_of_getElem? (i := 1) rfl
def F_X6_failed (k : Int32) : Int32 × Int32 :=
  (((-10 : Int32) - k), k)
set_option maxHeartbeats 4000000 in
set_option maxRecDepth 100000 in
theorem c_X6_failed (l : Launch) (D : va_G) (cI cO : ClassId) (h6 : Nat) (q : Nat → Nat) (fl : Int32) (pn : Int32) (sl : Int32) (dr : Int32) (yn : Int32) (ra : Int32) (rp : Int32) (rs : Int32) (rd : Int32) (ry : Int32) (pk : Int32) (yk : Int32) (rg : Int32) (tc : Int32) (k : Int32) : zW l yX6_failed wsX6_failed ({ frames := 0, cells := 0, slots := 0, locals := 0 } : Room) D cI cO [.ref h6, .int k] [(h6, .inr (6, fM fl pn sl dr yn ra rp rs rd ry pk yk rg tc q))] [(h6, .inr (6, fM ((F_X6_failed k).2) pn sl dr yn ra rp rs rd ry pk yk rg tc q))] (some (.int ((F_X6_failed k).1))) := by
  refine zW_of (nL := 2) (cc := cX6_failed) (ret := some .int) (lv := [(0, .ref h6), (1, .int k)]) (by decide +kernel) rfl (Nat.le_of_ble_eq_true rfl) rfl (fun p e s m args below meth c C hr hlk => ?_)
  have hf := F_X6_failed.eq_1 k
  refine z_aload_n C dX6_failed_0 rfl 0 rfl ?_
  refine z_iload_n C dX6_failed_1 rfl 1 rfl ?_
  refine z_put (T := TX6) (ty := .int) C [(h6, .inr (6, fM k pn sl dr yn ra rp rs rd ry pk yk rg tc q))] i_X6_failed_6 tyX6 tyX6_ok nmX6 0 rfl rfl 0 (by decide) m_X6_failed_1 rfl rfl (by decide +kernel) rfl rfl (Nat.le_of_ble_eq_true rfl) dX6_failed_2 rfl ?_
  refine z_bipush (v := (-10 : Int32)) C dX6_failed_5 (by decide) ?_
  refine z_iload_n C dX6_failed_7 rfl 1 rfl ?_
  refine z_isub C dX6_failed_8 ?_
  exact z_iretW C hr hlk (by rw [hf]) (by rw [hf]) dX6_failed_9
-- X6_failedLong
theorem i_X6_failedLong_6 : ∀ w ∈ u_ws RX6 TX6 30, w ∈ wsX6_failedLong := by decide +kernel
theorem m_X6_failedLong_1 : Cond.fieldLink RX6 60 "WishPinsModel" "fault" "I" ∈ wsX6_failedLong := List.mem_of_getElem? (i := 1) rfl
def F_X6_failedLong (k : Int32) : Int64 × Int32 :=
  (F_X6_lost, k)
set_option maxHeartbeats 4000000 in
set_option maxRecDepth 100000 in
theorem c_X6_failedLong (l : Launch) (D : va_G) (cI cO : ClassId) (h6 : Nat) (q : Nat → Nat) (fl : Int32) (pn : Int32) (sl : Int32) (dr : Int32) (yn : Int32) (ra : Int32) (rp : Int32) (rs : Int32) (rd : Int32) (ry : Int32) (pk : Int32) (yk : Int32) (rg : Int32) (tc : Int32) (k : Int32) : zW l yX6_failedLong wsX6_failedLong ({ frames := 1, cells := 0, slots := 0, locals := 19 } : Room) D cI cO [.ref h6, .int k] [(h6, .inr (6, fM fl pn sl dr yn ra rp rs rd ry pk yk rg tc q))] [(h6, .inr (6, fM ((F_X6_failedLong k).2) pn sl dr yn ra rp rs rd ry pk yk rg tc q))] (some (.long ((F_X6_failedLong k).1))) := by
  refine zW_of (nL := 2) (cc := cX6_failedLong) (ret := some .long) (lv := [(0, .ref h6), (1, .int k)]) (by decide +kernel) rfl (Nat.le_of_ble_eq_true rfl) rfl (fun p e s m args below meth c C hr hlk => ?_)
  have hf := F_X6_failedLong.eq_1 k
  refine z_aload_n C dX6_failedLong_0 rfl 0 rfl ?_
  refine z_iload_n C dX6_failedLong_1 rfl 1 rfl ?_
  refine z_put (T := TX6) (ty := .int) C [(h6, .inr (6, fM k pn sl dr yn ra rp rs rd ry pk yk rg tc q))] i_X6_failedLong_6 tyX6 tyX6_ok nmX6 0 rfl rfl 0 (by decide) m_X6_failedLong_1 rfl rfl (by decide +kernel) rfl rfl (Nat.le_of_ble_eq_true rfl) dX6_failedLong_2 rfl ?_
  refine z_cSR (As := []) C (c_X6_lost l D cI cO) (va_cwS 0 C.2.2.2.2.1 gX6_failedLong_X6_lost rfl rfl rfl hdS_X6_lost ⟨Nat.le_of_ble_eq_true rfl, Nat.le_of_ble_eq_true rfl⟩) [] rfl rfl rfl _ rfl (Nat.le_of_ble_eq_true rfl) ⟨Nat.zero_le _, Nat.zero_le _⟩ dX6_failedLong_5 ?_
  generalize hu5 : F_X6_lost = u5 at hf ⊢
  exact z_lretW C hr hlk (by rw [hf]) (by rw [hf]) dX6_failedLong_8
-- X6_noPin
theorem i_X6_noPin_6 : ∀ w ∈ u_ws RX6 TX6 30, w ∈ wsX6_noPin := by decide +kernel
theorem m_X6_noPin_1 : Cond.fieldLink RX6 68 "WishPinsModel" "pins" "I" ∈ wsX6_noPin := List.mem_of_getElem? (i := 1) rfl
def F_X6_noPin (pn : Int32) (k : Int32) : Int32 :=
  (if (F_X6_in k.toInt64 (0 : Int64) (pn.toInt64 - (1 : Int64))) = 0 then (1 : Int32) else (0 : Int32))
set_option maxHeartbeats 4000000 in
set_option maxRecDepth 100000 in
theorem c_X6_noPin (l : Launch) (D : va_G) (cI cO : ClassId) (h6 : Nat) (q : Nat → Nat) (fl : Int32) (pn : Int32) (sl : Int32) (dr : Int32) (yn : Int32) (ra : Int32) (rp : Int32) (rs : Int32) (rd : Int32) (ry : Int32) (pk : Int32) (yk : Int32) (rg : Int32) (tc : Int32) (k : Int32) : zR l yX6_noPin wsX6_noPin ({ frames := 1, cells := 0, slots := 0, locals := 25 } : Room) D cI cO [.ref h6, .int k] [(h6, .inr (6, fM fl pn sl dr yn ra rp rs rd ry pk yk rg tc q))] (some (.int (F_X6_noPin pn k))) := by
  refine zR_of (nL := 2) (cc := cX6_noPin) (ret := some .boolean) (lv := [(0, .ref h6), (1, .int k)]) (by decide +kernel) rfl (Nat.le_of_ble_eq_true rfl) rfl (fun p e s m args below meth c C hr hlk => ?_)
  have hf := F_X6_noPin.eq_1 pn k
  refine z_iload_n C dX6_noPin_0 rfl 1 rfl ?_
  refine z_i2l C dX6_noPin_1 ?_
  refine z_lconst (v := (0 : Int64)) C dX6_noPin_2 (by decide) ?_
  refine z_aload_n C dX6_noPin_3 rfl 0 rfl ?_
  refine z_get (T := TX6) (v := .int pn) C i_X6_noPin_6 0 rfl rfl 1 (by decide) m_X6_noPin_1 rfl rfl dX6_noPin_4 ?_
  refine z_i2l C dX6_noPin_7 ?_
  refine z_lconst (v := (1 : Int64)) C dX6_noPin_8 (by decide) ?_
  refine z_lsub C dX6_noPin_9 ?_
  refine z_cSR (As := [.long k.toInt64, .long (0 : Int64), .long (pn.toInt64 - (1 : Int64))]) C (c_X6_in l D cI cO k.toInt64 (0 : Int64) (pn.toInt64 - (1 : Int64))) (va_cwS 3 C.2.2.2.2.1 gX6_noPin_X6_in rfl rfl rfl hdS_X6_in ⟨Nat.le_of_ble_eq_true rfl, Nat.le_of_ble_eq_true rfl⟩) [] rfl rfl rfl _ rfl (Nat.le_of_ble_eq_true rfl) ⟨Nat.zero_le _, Nat.zero_le _⟩ dX6_noPin_10 ?_
  generalize hu10 : (F_X6_in k.toInt64 (0 : Int64) (pn.toInt64 - (1 : Int64))) = u10 at hf ⊢
  refine z_if_ne (tgt := 20) C dX6_noPin_13 (by decide) (fun c13 => ?_) (fun c13 => ?_)
  · rw [if_neg c13] at hf
    have b13 := c13
    rw [← hu10] at c13
    refine z_iconst (v := (0 : Int32)) C dX6_noPin_20 (by decide) ?_
    exact z_zretR C hr hlk rfl (by rw [hf]) dX6_noPin_21
  · rw [if_pos c13] at hf
    have b13 := c13
    rw [← hu10] at c13
    refine z_iconst (v := (1 : Int32)) C dX6_noPin_16 (by decide) ?_
    refine z_goto (tgt := 21) C dX6_noPin_17 (by decide) ?_
    exact z_zretR C hr hlk rfl (by rw [hf]) dX6_noPin_21
theorem noPin_iff (pn k : Int32) : F_X6_noPin pn k = 0 ↔ 0 ≤ k.toInt ∧ k.toInt < pn.toInt := by
  rw [F_X6_noPin]
  have h := in_iff k.toInt64 0 (pn.toInt64 - 1)
  rw [l_ti, l_ti1, show (0 : Int64).toInt = 0 by decide] at h
  by_cases c : F_X6_in k.toInt64 (0 : Int64) (pn.toInt64 - (1 : Int64)) = 0
  · rw [if_pos c]
    have := h.mp c
    exact ⟨fun q => absurd q (by decide), fun q => by omega⟩
  · rw [if_neg c]
    have := mt h.mpr c
    exact ⟨fun _ => by omega, fun _ => rfl⟩
theorem noPin_ix {pn k : Int32} {np : Nat} (hpn : pn = nI np) (hnp : np ≤ 9) (h : F_X6_noPin pn k = 0) : vp_in k 9 := by
  have h1 := (noPin_iff pn k).mp h
  rw [hpn, nI_toInt (by omega)] at h1
  rw [vp_in_iff]; omega
-- X6_turnBy
def F_X6_turnBy (k : Int32) (b : Int32) : Int32 :=
  (if k = 0 then b else (if k = (1 : Int32) then (b + (1 : Int32)) else (((2 : Int32) * b) + (2 : Int32))))
set_option maxHeartbeats 4000000 in
set_option maxRecDepth 100000 in
theorem c_X6_turnBy (l : Launch) (D : va_G) (cI cO : ClassId) (k : Int32) (b : Int32) : zR l yX6_turnBy wsX6_turnBy ({ frames := 0, cells := 0, slots := 0, locals := 0 } : Room) D cI cO [.int k, .int b] [] (some (.int (F_X6_turnBy k b))) := by
  refine zR_of (nL := 2) (cc := cX6_turnBy) (ret := some .int) (lv := [(0, .int k), (1, .int b)]) (by decide +kernel) rfl (Nat.le_of_ble_eq_true rfl) rfl (fun p e s m args below meth c C hr hlk => ?_)
  have hf := F_X6_turnBy.eq_1 k b
  refine z_iload_n C dX6_turnBy_0 rfl 0 rfl ?_
  refine z_if_ne (tgt := 8) C dX6_turnBy_1 (by decide) (fun c1 => ?_) (fun c1 => ?_)
  · rw [if_neg c1] at hf
    refine z_iload_n C dX6_turnBy_8 rfl 0 rfl ?_
    refine z_iconst (v := (1 : Int32)) C dX6_turnBy_9 (by decide) ?_
    refine z_icmp_ne (tgt := 19) C dX6_turnBy_10 (by decide) (fun c10 => ?_) (fun c10 => ?_)
    · rw [if_neg c10] at hf
      refine z_iconst (v := (2 : Int32)) C dX6_turnBy_19 (by decide) ?_
      refine z_iload_n C dX6_turnBy_20 rfl 1 rfl ?_
      refine z_imul C dX6_turnBy_21 ?_
      refine z_iconst (v := (2 : Int32)) C dX6_turnBy_22 (by decide) ?_
      refine z_iadd C dX6_turnBy_23 ?_
      exact z_iretR C hr hlk (by rw [hf]) dX6_turnBy_24
    · rw [if_pos c10] at hf
      refine z_iload_n C dX6_turnBy_13 rfl 1 rfl ?_
      refine z_iconst (v := (1 : Int32)) C dX6_turnBy_14 (by decide) ?_
      refine z_iadd C dX6_turnBy_15 ?_
      refine z_goto (tgt := 24) C dX6_turnBy_16 (by decide) ?_
      exact z_iretR C hr hlk (by rw [hf]) dX6_turnBy_24
  · rw [if_pos c1] at hf
    refine z_iload_n C dX6_turnBy_4 rfl 1 rfl ?_
    refine z_goto (tgt := 24) C dX6_turnBy_5 (by decide) ?_
    exact z_iretR C hr hlk (by rw [hf]) dX6_turnBy_24
-- X6_turnOf
theorem i_X6_turnOf_6 : ∀ w ∈ u_ws RX6 TX6 30, w ∈ wsX6_turnOf := by decide +kernel
theorem m_X6_turnOf_1 : Cond.fieldLink RX6 7 "WishPinsModel" "kindOf" "[I" ∈ wsX6_turnOf := List.mem_of_getElem? (i := 1) rfl
theorem m_X6_turnOf_2 : Cond.fieldLink RX6 13 "WishPinsModel" "bendOf" "[I" ∈ wsX6_turnOf := List.mem_of_getElem? (i := 2) rfl
def F_X6_turnOf (ko : Nat → Int32) (bo : Nat → Int32) (k : Int32) : Int32 :=
  (F_X6_turnBy (ko k.toNatClampNeg) (bo k.toNatClampNeg))
set_option maxHeartbeats 4000000 in
set_option maxRecDepth 100000 in
theorem c_X6_turnOf (l : Launch) (D : va_G) (cI cO : ClassId) (h6 : Nat) (q : Nat → Nat) (fl : Int32) (pn : Int32) (sl : Int32) (dr : Int32) (yn : Int32) (ra : Int32) (rp : Int32) (rs : Int32) (rd : Int32) (ry : Int32) (pk : Int32) (yk : Int32) (rg : Int32) (tc : Int32) (ko : Nat → Int32) (bo : Nat → Int32) (k : Int32) (hk : vp_in k 9) : zR l yX6_turnOf wsX6_turnOf ({ frames := 1, cells := 0, slots := 0, locals := 21 } : Room) D cI cO [.ref h6, .int k] [(h6, .inr (6, fM fl pn sl dr yn ra rp rs rd ry pk yk rg tc q)), ((q 5), .inl (cI, 9, .inl ko)), ((q 6), .inl (cI, 9, .inl bo))] (some (.int (F_X6_turnOf ko bo k))) := by
  refine zR_of (nL := 2) (cc := cX6_turnOf) (ret := some .int) (lv := [(0, .ref h6), (1, .int k)]) (by decide +kernel) rfl (Nat.le_of_ble_eq_true rfl) rfl (fun p e s m args below meth c C hr hlk => ?_)
  have hf := F_X6_turnOf.eq_1 ko bo k
  refine z_aload_n C dX6_turnOf_0 rfl 0 rfl ?_
  refine z_get (T := TX6) (v := .ref (q 5)) C i_X6_turnOf_6 0 rfl rfl 5 (by decide) m_X6_turnOf_1 rfl rfl dX6_turnOf_1 ?_
  refine z_iload_n C dX6_turnOf_4 rfl 1 rfl ?_
  refine z_ald C 1 rfl hk dX6_turnOf_5 ?_
  refine z_aload_n C dX6_turnOf_6 rfl 0 rfl ?_
  refine z_get (T := TX6) (v := .ref (q 6)) C i_X6_turnOf_6 0 rfl rfl 6 (by decide) m_X6_turnOf_2 rfl rfl dX6_turnOf_7 ?_
  refine z_iload_n C dX6_turnOf_10 rfl 1 rfl ?_
  refine z_ald C 2 rfl hk dX6_turnOf_11 ?_
  refine z_cSR (As := [.int (ko k.toNatClampNeg), .int (bo k.toNatClampNeg)]) C (c_X6_turnBy l D cI cO (ko k.toNatClampNeg) (bo k.toNatClampNeg)) (va_cwS 2 C.2.2.2.2.1 gX6_turnOf_X6_turnBy rfl rfl rfl hdS_X6_turnBy ⟨Nat.le_of_ble_eq_true rfl, Nat.le_of_ble_eq_true rfl⟩) [] rfl rfl rfl _ rfl (Nat.le_of_ble_eq_true rfl) ⟨Nat.zero_le _, Nat.zero_le _⟩ dX6_turnOf_12 ?_
  generalize hu12 : (F_X6_turnBy (ko k.toNatClampNeg) (bo k.toNatClampNeg)) = u12 at hf ⊢
  exact z_iretR C hr hlk (by rw [hf]) dX6_turnOf_15
-- X6_wishBy
theorem i_X6_wishBy_6 : ∀ w ∈ u_ws RX6 TX6 30, w ∈ wsX6_wishBy := by decide +kernel
theorem m_X6_wishBy_1 : Cond.fieldLink RX6 126 "WishPinsModel" "slopeNow" "I" ∈ wsX6_wishBy := List.mem_of_getElem? (i := 1) rfl
theorem m_X6_wishBy_2 : Cond.fieldLink RX6 129 "WishPinsModel" "driftNow" "I" ∈ wsX6_wishBy := List.mem_of_getElem? (i := 2) rfl
def F_X6_wishBy (sl : Int32) (dr : Int32) (t : Int32) (y : Int32) : Int32 :=
  (((sl * t) + (dr * y)) - ((sl * t) + (dr * y)) / (6 : Int32) * (6 : Int32))
set_option maxHeartbeats 4000000 in
set_option maxRecDepth 100000 in
theorem c_X6_wishBy (l : Launch) (D : va_G) (cI cO : ClassId) (h6 : Nat) (q : Nat → Nat) (fl : Int32) (pn : Int32) (sl : Int32) (dr : Int32) (yn : Int32) (ra : Int32) (rp : Int32) (rs : Int32) (rd : Int32) (ry : Int32) (pk : Int32) (yk : Int32) (rg : Int32) (tc : Int32) (t : Int32) (y : Int32) : zR l yX6_wishBy wsX6_wishBy ({ frames := 0, cells := 0, slots := 0, locals := 0 } : Room) D cI cO [.ref h6, .int t, .int y] [(h6, .inr (6, fM fl pn sl dr yn ra rp rs rd ry pk yk rg tc q))] (some (.int (F_X6_wishBy sl dr t y))) := by
  refine zR_of (nL := 3) (cc := cX6_wishBy) (ret := some .int) (lv := [(0, .ref h6), (1, .int t), (2, .int y)]) (by decide +kernel) rfl (Nat.le_of_ble_eq_true rfl) rfl (fun p e s m args below meth c C hr hlk => ?_)
  have hf := F_X6_wishBy.eq_1 sl dr t y
  refine z_aload_n C dX6_wishBy_0 rfl 0 rfl ?_
  refine z_get (T := TX6) (v := .int sl) C i_X6_wishBy_6 0 rfl rfl 2 (by decide) m_X6_wishBy_1 rfl rfl dX6_wishBy_1 ?_
  refine z_iload_n C dX6_wishBy_4 rfl 1 rfl ?_
  refine z_imul C dX6_wishBy_5 ?_
  refine z_aload_n C dX6_wishBy_6 rfl 0 rfl ?_
  refine z_get (T := TX6) (v := .int dr) C i_X6_wishBy_6 0 rfl rfl 3 (by decide) m_X6_wishBy_2 rfl rfl dX6_wishBy_7 ?_
  refine z_iload_n C dX6_wishBy_10 rfl 2 rfl ?_
  refine z_imul C dX6_wishBy_11 ?_
  refine z_iadd C dX6_wishBy_12 ?_
  refine z_bipush (v := (6 : Int32)) C dX6_wishBy_13 (by decide) ?_
  refine z_irem C dX6_wishBy_15 (by decide) ?_
  exact z_iretR C hr hlk (by rw [hf]) dX6_wishBy_16
-- X6_wishOf
theorem i_X6_wishOf_6 : ∀ w ∈ u_ws RX6 TX6 30, w ∈ wsX6_wishOf := by decide +kernel
theorem m_X6_wishOf_1 : Cond.fieldLink RX6 16 "WishPinsModel" "yearOf" "[I" ∈ wsX6_wishOf := List.mem_of_getElem? (i := 1) rfl
def F_X6_wishOf (sl : Int32) (dr : Int32) (ko : Nat → Int32) (bo : Nat → Int32) (yo : Nat → Int32) (k : Int32) : Int32 :=
  (F_X6_wishBy sl dr (F_X6_turnOf ko bo k) (yo k.toNatClampNeg))
set_option maxHeartbeats 4000000 in
set_option maxRecDepth 100000 in
theorem c_X6_wishOf (l : Launch) (D : va_G) (cI cO : ClassId) (h6 : Nat) (q : Nat → Nat) (fl : Int32) (pn : Int32) (sl : Int32) (dr : Int32) (yn : Int32) (ra : Int32) (rp : Int32) (rs : Int32) (rd : Int32) (ry : Int32) (pk : Int32) (yk : Int32) (rg : Int32) (tc : Int32) (ko : Nat → Int32) (bo : Nat → Int32) (yo : Nat → Int32) (k : Int32) (hk : vp_in k 9) : zR l yX6_wishOf wsX6_wishOf ({ frames := 2, cells := 0, slots := 0, locals := 42 } : Room) D cI cO [.ref h6, .int k] [(h6, .inr (6, fM fl pn sl dr yn ra rp rs rd ry pk yk rg tc q)), ((q 5), .inl (cI, 9, .inl ko)), ((q 6), .inl (cI, 9, .inl bo)), ((q 7), .inl (cI, 9, .inl yo))] (some (.int (F_X6_wishOf sl dr ko bo yo k))) := by
  refine zR_of (nL := 2) (cc := cX6_wishOf) (ret := some .int) (lv := [(0, .ref h6), (1, .int k)]) (by decide +kernel) rfl (Nat.le_of_ble_eq_true rfl) rfl (fun p e s m args below meth c C hr hlk => ?_)
  have hf := F_X6_wishOf.eq_1 sl dr ko bo yo k
  refine z_aload_n C dX6_wishOf_0 rfl 0 rfl ?_
  refine z_aload_n C dX6_wishOf_1 rfl 0 rfl ?_
  refine z_iload_n C dX6_wishOf_2 rfl 1 rfl ?_
  refine z_cVR (As := [.int k]) C (c_X6_turnOf l D cI cO h6 q fl pn sl dr yn ra rp rs rd ry pk yk rg tc ko bo k hk) (cwV 1 C.2.2.2.2.1 gX6_wishOf_X6_turnOf rfl rfl rfl hdV_X6_turnOf ⟨Nat.le_of_ble_eq_true rfl, Nat.le_of_ble_eq_true rfl⟩) [0, 1, 2] rfl rfl 0 rfl rfl rfl _ rfl (Nat.le_of_ble_eq_true rfl) ⟨Nat.zero_le _, Nat.zero_le _⟩ dX6_wishOf_3 ?_
  generalize hu3 : (F_X6_turnOf ko bo k) = u3 at hf ⊢
  refine z_aload_n C dX6_wishOf_6 rfl 0 rfl ?_
  refine z_get (T := TX6) (v := .ref (q 7)) C i_X6_wishOf_6 0 rfl rfl 7 (by decide) m_X6_wishOf_1 rfl rfl dX6_wishOf_7 ?_
  refine z_iload_n C dX6_wishOf_10 rfl 1 rfl ?_
  refine z_ald C 3 rfl (by subst hu3; exact hk) dX6_wishOf_11 ?_
  refine z_cVR (As := [.int u3, .int (yo k.toNatClampNeg)]) C (c_X6_wishBy l D cI cO h6 q fl pn sl dr yn ra rp rs rd ry pk yk rg tc u3 (yo k.toNatClampNeg)) (cwV 2 C.2.2.2.2.1 gX6_wishOf_X6_wishBy rfl rfl rfl hdV_X6_wishBy ⟨Nat.le_of_ble_eq_true rfl, Nat.le_of_ble_eq_true rfl⟩) [0] rfl rfl 0 rfl rfl rfl _ rfl (Nat.le_of_ble_eq_true rfl) ⟨Nat.zero_le _, Nat.zero_le _⟩ dX6_wishOf_12 ?_
  generalize hu12 : (F_X6_wishBy sl dr u3 (yo k.toNatClampNeg)) = u12 at hf ⊢
  exact z_iretR C hr hlk (by rw [hf]) dX6_wishOf_15
-- X6_ofPin
theorem i_X6_ofPin_6 : ∀ w ∈ u_ws RX6 TX6 30, w ∈ wsX6_ofPin := by decide +kernel
theorem m_X6_ofPin_1 : Cond.fieldLink RX6 7 "WishPinsModel" "kindOf" "[I" ∈ wsX6_ofPin := List.mem_of_getElem? (i := 1) rfl
theorem m_X6_ofPin_2 : Cond.fieldLink RX6 13 "WishPinsModel" "bendOf" "[I" ∈ wsX6_ofPin := List.mem_of_getElem? (i := 2) rfl
theorem m_X6_ofPin_3 : Cond.fieldLink RX6 16 "WishPinsModel" "yearOf" "[I" ∈ wsX6_ofPin := List.mem_of_getElem? (i := 3) rfl
theorem m_X6_ofPin_4 : Cond.fieldLink RX6 132 "WishPinsModel" "yearNow" "I" ∈ wsX6_ofPin := List.mem_of_getElem? (i := 4) rfl
def F_X6_ofPin (pn : Int32) (sl : Int32) (dr : Int32) (yn : Int32) (ko : Nat → Int32) (bo : Nat → Int32) (yo : Nat → Int32) (k : Int32) (w : Int32) : Int32 :=
  (if (F_X6_noPin pn k) = 0 then (if w = (0 : Int32) then (ko k.toNatClampNeg) else (if w = (1 : Int32) then (bo k.toNatClampNeg) else (if w = (2 : Int32) then (yo k.toNatClampNeg) else (if w = (3 : Int32) then (F_X6_turnOf ko bo k) else (if w = (4 : Int32) then (F_X6_wishOf sl dr ko bo yo k) else (if w = (5 : Int32) then (yn - (yo k.toNatClampNeg)) else (-2 : Int32))))))) else (-1 : Int32))
set_option maxHeartbeats 4000000 in
set_option maxRecDepth 100000 in
theorem c_X6_ofPin (l : Launch) (D : va_G) (cI cO : ClassId) (h6 : Nat) (q : Nat → Nat) (fl : Int32) (pn : Int32) (sl : Int32) (dr : Int32) (yn : Int32) (ra : Int32) (rp : Int32) (rs : Int32) (rd : Int32) (ry : Int32) (pk : Int32) (yk : Int32) (rg : Int32) (tc : Int32) (ko : Nat → Int32) (bo : Nat → Int32) (yo : Nat → Int32) (k : Int32) (w : Int32) (np : Nat) (hpn : pn = nI np) (hnp : np ≤ 9) : zR l yX6_ofPin wsX6_ofPin ({ frames := 3, cells := 0, slots := 0, locals := 63 } : Room) D cI cO [.ref h6, .int k, .int w] [(h6, .inr (6, fM fl pn sl dr yn ra rp rs rd ry pk yk rg tc q)), ((q 5), .inl (cI, 9, .inl ko)), ((q 6), .inl (cI, 9, .inl bo)), ((q 7), .inl (cI, 9, .inl yo))] (some (.int (F_X6_ofPin pn sl dr yn ko bo yo k w))) := by
  refine zR_of (nL := 3) (cc := cX6_ofPin) (ret := some .int) (lv := [(0, .ref h6), (1, .int k), (2, .int w)]) (by decide +kernel) rfl (Nat.le_of_ble_eq_true rfl) rfl (fun p e s m args below meth c C hr hlk => ?_)
  have hf := F_X6_ofPin.eq_1 pn sl dr yn ko bo yo k w
  refine z_aload_n C dX6_ofPin_0 rfl 0 rfl ?_
  refine z_iload_n C dX6_ofPin_1 rfl 1 rfl ?_
  refine z_cVR (As := [.int k]) C (c_X6_noPin l D cI cO h6 q fl pn sl dr yn ra rp rs rd ry pk yk rg tc k) (cwV 1 C.2.2.2.2.1 gX6_ofPin_X6_noPin rfl rfl rfl hdV_X6_noPin ⟨Nat.le_of_ble_eq_true rfl, Nat.le_of_ble_eq_true rfl⟩) [0] rfl rfl 0 rfl rfl rfl _ rfl (Nat.le_of_ble_eq_true rfl) ⟨Nat.zero_le _, Nat.zero_le _⟩ dX6_ofPin_2 ?_
  generalize hu2 : (F_X6_noPin pn k) = u2 at hf ⊢
  refine z_if_eq (tgt := 10) C dX6_ofPin_5 (by decide) (fun c5 => ?_) (fun c5 => ?_)
  · rw [if_pos c5] at hf
    have b5 := c5
    rw [← hu2] at c5
    refine z_iload_n C dX6_ofPin_10 rfl 2 rfl ?_
    by_cases c11_0 : w = (0 : Int32)
    · rw [if_pos c11_0] at hf
      refine z_tabIn (tgt := 48) C dX6_ofPin_11 (by rw [c11_0]; decide) (by rw [c11_0]; decide) (by rw [c11_0] <;> rfl) (by decide) ?_
      refine z_aload_n C dX6_ofPin_48 rfl 0 rfl ?_
      refine z_get (T := TX6) (v := .ref (q 5)) C i_X6_ofPin_6 0 rfl rfl 5 (by decide) m_X6_ofPin_1 rfl rfl dX6_ofPin_49 ?_
      refine z_iload_n C dX6_ofPin_52 rfl 1 rfl ?_
      refine z_ald C 1 rfl (by subst hu2; exact (noPin_ix hpn hnp c5)) dX6_ofPin_53 ?_
      exact z_iretR C hr hlk (by rw [hf]) dX6_ofPin_54
    rw [if_neg c11_0] at hf
    by_cases c11_1 : w = (1 : Int32)
    · rw [if_pos c11_1] at hf
      refine z_tabIn (tgt := 55) C dX6_ofPin_11 (by rw [c11_1]; decide) (by rw [c11_1]; decide) (by rw [c11_1] <;> rfl) (by decide) ?_
      refine z_aload_n C dX6_ofPin_55 rfl 0 rfl ?_
      refine z_get (T := TX6) (v := .ref (q 6)) C i_X6_ofPin_6 0 rfl rfl 6 (by decide) m_X6_ofPin_2 rfl rfl dX6_ofPin_56 ?_
      refine z_iload_n C dX6_ofPin_59 rfl 1 rfl ?_
      refine z_ald C 2 rfl (by subst hu2; exact (noPin_ix hpn hnp c5)) dX6_ofPin_60 ?_
      exact z_iretR C hr hlk (by rw [hf]) dX6_ofPin_61
    rw [if_neg c11_1] at hf
    by_cases c11_2 : w = (2 : Int32)
    · rw [if_pos c11_2] at hf
      refine z_tabIn (tgt := 62) C dX6_ofPin_11 (by rw [c11_2]; decide) (by rw [c11_2]; decide) (by rw [c11_2] <;> rfl) (by decide) ?_
      refine z_aload_n C dX6_ofPin_62 rfl 0 rfl ?_
      refine z_get (T := TX6) (v := .ref (q 7)) C i_X6_ofPin_6 0 rfl rfl 7 (by decide) m_X6_ofPin_3 rfl rfl dX6_ofPin_63 ?_
      refine z_iload_n C dX6_ofPin_66 rfl 1 rfl ?_
      refine z_ald C 3 rfl (by subst hu2; exact (noPin_ix hpn hnp c5)) dX6_ofPin_67 ?_
      exact z_iretR C hr hlk (by rw [hf]) dX6_ofPin_68
    rw [if_neg c11_2] at hf
    by_cases c11_3 : w = (3 : Int32)
    · rw [if_pos c11_3] at hf
      refine z_tabIn (tgt := 69) C dX6_ofPin_11 (by rw [c11_3]; decide) (by rw [c11_3]; decide) (by rw [c11_3] <;> rfl) (by decide) ?_
      refine z_aload_n C dX6_ofPin_69 rfl 0 rfl ?_
      refine z_iload_n C dX6_ofPin_70 rfl 1 rfl ?_
      refine z_cVR (As := [.int k]) C (c_X6_turnOf l D cI cO h6 q fl pn sl dr yn ra rp rs rd ry pk yk rg tc ko bo k (by subst hu2; exact (noPin_ix hpn hnp c5))) (cwV 1 C.2.2.2.2.1 gX6_ofPin_X6_turnOf rfl rfl rfl hdV_X6_turnOf ⟨Nat.le_of_ble_eq_true rfl, Nat.le_of_ble_eq_true rfl⟩) [0, 1, 2] rfl rfl 0 rfl rfl rfl _ rfl (Nat.le_of_ble_eq_true rfl) ⟨Nat.zero_le _, Nat.zero_le _⟩ dX6_ofPin_71 ?_
      generalize hu71 : (F_X6_turnOf ko bo k) = u71 at hf ⊢
      exact z_iretR C hr hlk (by rw [hf]) dX6_ofPin_74
    rw [if_neg c11_3] at hf
    by_cases c11_4 : w = (4 : Int32)
    · rw [if_pos c11_4] at hf
      refine z_tabIn (tgt := 75) C dX6_ofPin_11 (by rw [c11_4]; decide) (by rw [c11_4]; decide) (by rw [c11_4] <;> rfl) (by decide) ?_
      refine z_aload_n C dX6_ofPin_75 rfl 0 rfl ?_
      refine z_iload_n C dX6_ofPin_76 rfl 1 rfl ?_
      refine z_cVR (As := [.int k]) C (c_X6_wishOf l D cI cO h6 q fl pn sl dr yn ra rp rs rd ry pk yk rg tc ko bo yo k (by subst hu2; exact (noPin_ix hpn hnp c5))) (cwV 1 C.2.2.2.2.1 gX6_ofPin_X6_wishOf rfl rfl rfl hdV_X6_wishOf ⟨Nat.le_of_ble_eq_true rfl, Nat.le_of_ble_eq_true rfl⟩) [0, 1, 2, 3] rfl rfl 0 rfl rfl rfl _ rfl (Nat.le_of_ble_eq_true rfl) ⟨Nat.zero_le _, Nat.zero_le _⟩ dX6_ofPin_77 ?_
      generalize hu77 : (F_X6_wishOf sl dr ko bo yo k) = u77 at hf ⊢
      exact z_iretR C hr hlk (by rw [hf]) dX6_ofPin_80
    rw [if_neg c11_4] at hf
    by_cases c11_5 : w = (5 : Int32)
    · rw [if_pos c11_5] at hf
      refine z_tabIn (tgt := 81) C dX6_ofPin_11 (by rw [c11_5]; decide) (by rw [c11_5]; decide) (by rw [c11_5] <;> rfl) (by decide) ?_
      refine z_aload_n C dX6_ofPin_81 rfl 0 rfl ?_
      refine z_get (T := TX6) (v := .int yn) C i_X6_ofPin_6 0 rfl rfl 4 (by decide) m_X6_ofPin_4 rfl rfl dX6_ofPin_82 ?_
      refine z_aload_n C dX6_ofPin_85 rfl 0 rfl ?_
      refine z_get (T := TX6) (v := .ref (q 7)) C i_X6_ofPin_6 0 rfl rfl 7 (by decide) m_X6_ofPin_3 rfl rfl dX6_ofPin_86 ?_
      refine z_iload_n C dX6_ofPin_89 rfl 1 rfl ?_
      refine z_ald C 3 rfl (by subst hu2; exact (noPin_ix hpn hnp c5)) dX6_ofPin_90 ?_
      refine z_isub C dX6_ofPin_91 ?_
      exact z_iretR C hr hlk (by rw [hf]) dX6_ofPin_92
    rw [if_neg c11_5] at hf
    refine z_tabOut (tgt := 93) C dX6_ofPin_11 (by have n0 := zne c11_0 (z := 0) (by decide); have n1 := zne c11_1 (z := 1) (by decide); have n2 := zne c11_2 (z := 2) (by decide); have n3 := zne c11_3 (z := 3) (by decide); have n4 := zne c11_4 (z := 4) (by decide); have n5 := zne c11_5 (z := 5) (by decide); omega) (by decide) ?_
    refine z_bipush (v := (-2 : Int32)) C dX6_ofPin_93 (by decide) ?_
    exact z_iretR C hr hlk (by rw [hf]) dX6_ofPin_95
  · rw [if_neg c5] at hf
    have b5 := c5
    rw [← hu2] at c5
    refine z_iconst (v := (-1 : Int32)) C dX6_ofPin_8 (by decide) ?_
    exact z_iretR C hr hlk (by rw [hf]) dX6_ofPin_9
-- X6_bend
theorem m_X6_bend_1 : Cond.constantLong RX6 153 (9) ∈ wsX6_bend := List.mem_of_getElem? (i := 1) rfl
theorem i_X6_bend_6 : ∀ w ∈ u_ws RX6 TX6 30, w ∈ wsX6_bend := by decide +kernel
theorem m_X6_bend_2 : Cond.fieldLink RX6 13 "WishPinsModel" "bendOf" "[I" ∈ wsX6_bend := List.mem_of_getElem? (i := 2) rfl
def F_X6_bend (pn : Int32) (bo : Nat → Int32) (k : Int32) (v : Int32) : Int32 × (Nat → Int32) :=
  (if (F_X6_noPin pn k) = 0 then (if (F_X6_in v.toInt64 (0 : Int64) (9 : Int64)) = 0 then ((-2 : Int32), bo) else ((bo k.toNatClampNeg), (upd bo k.toNatClampNeg v))) else ((-1 : Int32), bo))
set_option maxHeartbeats 4000000 in
set_option maxRecDepth 100000 in
theorem c_X6_bend (l : Launch) (D : va_G) (cI cO : ClassId) (h6 : Nat) (q : Nat → Nat) (fl : Int32) (pn : Int32) (sl : Int32) (dr : Int32) (yn : Int32) (ra : Int32) (rp : Int32) (rs : Int32) (rd : Int32) (ry : Int32) (pk : Int32) (yk : Int32) (rg : Int32) (tc : Int32) (bo : Nat → Int32) (k : Int32) (v : Int32) (np : Nat) (hpn : pn = nI np) (hnp : np ≤ 9) : zW l yX6_bend wsX6_bend ({ frames := 2, cells := 0, slots := 0, locals := 46 } : Room) D cI cO [.ref h6, .int k, .int v] [(h6, .inr (6, fM fl pn sl dr yn ra rp rs rd ry pk yk rg tc q)), ((q 6), .inl (cI, 9, .inl bo))] [(h6, .inr (6, fM fl pn sl dr yn ra rp rs rd ry pk yk rg tc q)), ((q 6), .inl (cI, 9, .inl ((F_X6_bend pn bo k v).2)))] (some (.int ((F_X6_bend pn bo k v).1))) := by
  refine zW_of (nL := 4) (cc := cX6_bend) (ret := some .int) (lv := [(0, .ref h6), (1, .int k), (2, .int v)]) (by decide +kernel) rfl (Nat.le_of_ble_eq_true rfl) rfl (fun p e s m args below meth c C hr hlk => ?_)
  have hf := F_X6_bend.eq_1 pn bo k v
  refine z_aload_n C dX6_bend_0 rfl 0 rfl ?_
  refine z_iload_n C dX6_bend_1 rfl 1 rfl ?_
  refine z_cVR (As := [.int k]) C (c_X6_noPin l D cI cO h6 q fl pn sl dr yn ra rp rs rd ry pk yk rg tc k) (cwV 1 C.2.2.2.2.1 gX6_bend_X6_noPin rfl rfl rfl hdV_X6_noPin ⟨Nat.le_of_ble_eq_true rfl, Nat.le_of_ble_eq_true rfl⟩) [0] rfl rfl 0 rfl rfl rfl _ rfl (Nat.le_of_ble_eq_true rfl) ⟨Nat.zero_le _, Nat.zero_le _⟩ dX6_bend_2 ?_
  generalize hu2 : (F_X6_noPin pn k) = u2 at hf ⊢
  refine z_if_eq (tgt := 10) C dX6_bend_5 (by decide) (fun c5 => ?_) (fun c5 => ?_)
  · rw [if_pos c5] at hf
    have b5 := c5
    rw [← hu2] at c5
    refine z_iload_n C dX6_bend_10 rfl 2 rfl ?_
    refine z_i2l C dX6_bend_11 ?_
    refine z_lconst (v := (0 : Int64)) C dX6_bend_12 (by decide) ?_
    refine z_ldc2 C m_X6_bend_1 dX6_bend_13 ?_
    refine z_cSR (As := [.long v.toInt64, .long (0 : Int64), .long (9 : Int64)]) C (c_X6_in l D cI cO v.toInt64 (0 : Int64) (9 : Int64)) (va_cwS 3 C.2.2.2.2.1 gX6_bend_X6_in rfl rfl rfl hdS_X6_in ⟨Nat.le_of_ble_eq_true rfl, Nat.le_of_ble_eq_true rfl⟩) [] rfl rfl rfl _ rfl (Nat.le_of_ble_eq_true rfl) ⟨Nat.zero_le _, Nat.zero_le _⟩ dX6_bend_16 ?_
    generalize hu16 : (F_X6_in v.toInt64 (0 : Int64) (9 : Int64)) = u16 at hf ⊢
    refine z_if_ne (tgt := 25) C dX6_bend_19 (by decide) (fun c19 => ?_) (fun c19 => ?_)
    · rw [if_neg c19] at hf
      have b19 := c19
      rw [← hu16] at c19
      refine z_aload_n C dX6_bend_25 rfl 0 rfl ?_
      refine z_get (T := TX6) (v := .ref (q 6)) C i_X6_bend_6 0 rfl rfl 6 (by decide) m_X6_bend_2 rfl rfl dX6_bend_26 ?_
      refine z_iload_n C dX6_bend_29 rfl 1 rfl ?_
      refine z_ald C 1 rfl (by subst hu16 hu2; exact (noPin_ix hpn hnp c5)) dX6_bend_30 ?_
      refine z_istore_n C [(0, .ref h6), (1, .int k), (2, .int v), (3, .int (bo k.toNatClampNeg))] dX6_bend_31 rfl (by decide) [1, 2, 3, 0] rfl ?_
      refine z_aload_n C dX6_bend_32 rfl 0 rfl ?_
      refine z_get (T := TX6) (v := .ref (q 6)) C i_X6_bend_6 0 rfl rfl 6 (by decide) m_X6_bend_2 rfl rfl dX6_bend_33 ?_
      refine z_iload_n C dX6_bend_36 rfl 1 rfl ?_
      refine z_iload_n C dX6_bend_37 rfl 2 rfl ?_
      refine z_ast C [(h6, .inr (6, fM fl pn sl dr yn ra rp rs rd ry pk yk rg tc q)), ((q 6), .inl (cI, 9, .inl (upd bo k.toNatClampNeg v)))] 1 rfl (by subst hu16 hu2; exact (noPin_ix hpn hnp c5)) dX6_bend_38 rfl ?_
      refine z_iload_n C dX6_bend_39 rfl 3 rfl ?_
      exact z_iretW C hr hlk (by rw [hf]) (by rw [hf]) dX6_bend_40
    · rw [if_pos c19] at hf
      have b19 := c19
      rw [← hu16] at c19
      refine z_bipush (v := (-2 : Int32)) C dX6_bend_22 (by decide) ?_
      exact z_iretW C hr hlk (by rw [hf]) (by rw [hf]) dX6_bend_24
  · rw [if_neg c5] at hf
    have b5 := c5
    rw [← hu2] at c5
    refine z_iconst (v := (-1 : Int32)) C dX6_bend_8 (by decide) ?_
    exact z_iretW C hr hlk (by rw [hf]) (by rw [hf]) dX6_bend_9
-- X6_rekey
theorem i_X6_rekey_6 : ∀ w ∈ u_ws RX6 TX6 30, w ∈ wsX6_rekey := by decide +kernel
theorem m_X6_rekey_1 : Cond.fieldLink RX6 68 "WishPinsModel" "pins" "I" ∈ wsX6_rekey := List.mem_of_getElem? (i := 1) rfl
theorem m_X6_rekey_2 : Cond.constantLong RX6 155 (5) ∈ wsX6_rekey := List.mem_of_getElem? (i := 2) rfl
theorem m_X6_rekey_3 : Cond.fieldLink RX6 126 "WishPinsModel" "slopeNow" "I" ∈ wsX6_rekey := List.mem_of_getElem? (i := 3) rfl
theorem m_X6_rekey_4 : Cond.fieldLink RX6 129 "WishPinsModel" "driftNow" "I" ∈ wsX6_rekey := List.mem_of_getElem? (i := 4) rfl
def F_X6_rekey (pn : Int32) (sl : Int32) (dr : Int32) (a : Int32) (b : Int32) : Int32 × Int32 × Int32 :=
  (if pn = 0 then ((-3 : Int32), sl, dr) else (if (F_X6_in a.toInt64 (1 : Int64) (5 : Int64)) = 0 then ((-2 : Int32), sl, dr) else (if (F_X6_in b.toInt64 (0 : Int64) (5 : Int64)) = 0 then ((-2 : Int32), sl, dr) else ((((10 : Int32) * sl) + dr), a, b))))
set_option maxHeartbeats 4000000 in
set_option maxRecDepth 100000 in
theorem c_X6_rekey (l : Launch) (D : va_G) (cI cO : ClassId) (h6 : Nat) (q : Nat → Nat) (fl : Int32) (pn : Int32) (sl : Int32) (dr : Int32) (yn : Int32) (ra : Int32) (rp : Int32) (rs : Int32) (rd : Int32) (ry : Int32) (pk : Int32) (yk : Int32) (rg : Int32) (tc : Int32) (a : Int32) (b : Int32) : zW l yX6_rekey wsX6_rekey ({ frames := 1, cells := 0, slots := 0, locals := 25 } : Room) D cI cO [.ref h6, .int a, .int b] [(h6, .inr (6, fM fl pn sl dr yn ra rp rs rd ry pk yk rg tc q))] [(h6, .inr (6, fM fl pn ((F_X6_rekey pn sl dr a b).2.1) ((F_X6_rekey pn sl dr a b).2.2) yn ra rp rs rd ry pk yk rg tc q))] (some (.int ((F_X6_rekey pn sl dr a b).1))) := by
  refine zW_of (nL := 4) (cc := cX6_rekey) (ret := some .int) (lv := [(0, .ref h6), (1, .int a), (2, .int b)]) (by decide +kernel) rfl (Nat.le_of_ble_eq_true rfl) rfl (fun p e s m args below meth c C hr hlk => ?_)
  have hf := F_X6_rekey.eq_1 pn sl dr a b
  refine z_aload_n C dX6_rekey_0 rfl 0 rfl ?_
  refine z_get (T := TX6) (v := .int pn) C i_X6_rekey_6 0 rfl rfl 1 (by decide) m_X6_rekey_1 rfl rfl dX6_rekey_1 ?_
  refine z_if_ne (tgt := 10) C dX6_rekey_4 (by decide) (fun c4 => ?_) (fun c4 => ?_)
  · rw [if_neg c4] at hf
    refine z_iload_n C dX6_rekey_10 rfl 1 rfl ?_
    refine z_i2l C dX6_rekey_11 ?_
    refine z_lconst (v := (1 : Int64)) C dX6_rekey_12 (by decide) ?_
    refine z_ldc2 C m_X6_rekey_2 dX6_rekey_13 ?_
    refine z_cSR (As := [.long a.toInt64, .long (1 : Int64), .long (5 : Int64)]) C (c_X6_in l D cI cO a.toInt64 (1 : Int64) (5 : Int64)) (va_cwS 3 C.2.2.2.2.1 gX6_rekey_X6_in rfl rfl rfl hdS_X6_in ⟨Nat.le_of_ble_eq_true rfl, Nat.le_of_ble_eq_true rfl⟩) [] rfl rfl rfl _ rfl (Nat.le_of_ble_eq_true rfl) ⟨Nat.zero_le _, Nat.zero_le _⟩ dX6_rekey_16 ?_
    generalize hu16 : (F_X6_in a.toInt64 (1 : Int64) (5 : Int64)) = u16 at hf ⊢
    refine z_if_eq (tgt := 34) C dX6_rekey_19 (by decide) (fun c19 => ?_) (fun c19 => ?_)
    · rw [if_pos c19] at hf
      have b19 := c19
      rw [← hu16] at c19
      refine z_bipush (v := (-2 : Int32)) C dX6_rekey_34 (by decide) ?_
      exact z_iretW C hr hlk (by rw [hf]) (by rw [hf]) dX6_rekey_36
    · rw [if_neg c19] at hf
      have b19 := c19
      rw [← hu16] at c19
      refine z_iload_n C dX6_rekey_22 rfl 2 rfl ?_
      refine z_i2l C dX6_rekey_23 ?_
      refine z_lconst (v := (0 : Int64)) C dX6_rekey_24 (by decide) ?_
      refine z_ldc2 C m_X6_rekey_2 dX6_rekey_25 ?_
      refine z_cSR (As := [.long b.toInt64, .long (0 : Int64), .long (5 : Int64)]) C (c_X6_in l D cI cO b.toInt64 (0 : Int64) (5 : Int64)) (va_cwS 3 C.2.2.2.2.1 gX6_rekey_X6_in rfl rfl rfl hdS_X6_in ⟨Nat.le_of_ble_eq_true rfl, Nat.le_of_ble_eq_true rfl⟩) [] rfl rfl rfl _ rfl (Nat.le_of_ble_eq_true rfl) ⟨Nat.zero_le _, Nat.zero_le _⟩ dX6_rekey_28 ?_
      generalize hu28 : (F_X6_in b.toInt64 (0 : Int64) (5 : Int64)) = u28 at hf ⊢
      refine z_if_ne (tgt := 37) C dX6_rekey_31 (by decide) (fun c31 => ?_) (fun c31 => ?_)
      · rw [if_neg c31] at hf
        have b31 := c31
        rw [← hu28] at c31
        refine z_bipush (v := (10 : Int32)) C dX6_rekey_37 (by decide) ?_
        refine z_aload_n C dX6_rekey_39 rfl 0 rfl ?_
        refine z_get (T := TX6) (v := .int sl) C i_X6_rekey_6 0 rfl rfl 2 (by decide) m_X6_rekey_3 rfl rfl dX6_rekey_40 ?_
        refine z_imul C dX6_rekey_43 ?_
        refine z_aload_n C dX6_rekey_44 rfl 0 rfl ?_
        refine z_get (T := TX6) (v := .int dr) C i_X6_rekey_6 0 rfl rfl 3 (by decide) m_X6_rekey_4 rfl rfl dX6_rekey_45 ?_
        refine z_iadd C dX6_rekey_48 ?_
        refine z_istore_n C [(0, .ref h6), (1, .int a), (2, .int b), (3, .int (((10 : Int32) * sl) + dr))] dX6_rekey_49 rfl (by decide) [1, 2, 3, 0] rfl ?_
        refine z_aload_n C dX6_rekey_50 rfl 0 rfl ?_
        refine z_iload_n C dX6_rekey_51 rfl 1 rfl ?_
        refine z_put (T := TX6) (ty := .int) C [(h6, .inr (6, fM fl pn a dr yn ra rp rs rd ry pk yk rg tc q))] i_X6_rekey_6 tyX6 tyX6_ok nmX6 0 rfl rfl 2 (by decide) m_X6_rekey_3 rfl rfl (by decide +kernel) rfl rfl (Nat.le_of_ble_eq_true rfl) dX6_rekey_52 rfl ?_
        refine z_aload_n C dX6_rekey_55 rfl 0 rfl ?_
        refine z_iload_n C dX6_rekey_56 rfl 2 rfl ?_
        refine z_put (T := TX6) (ty := .int) C [(h6, .inr (6, fM fl pn a b yn ra rp rs rd ry pk yk rg tc q))] i_X6_rekey_6 tyX6 tyX6_ok nmX6 0 rfl rfl 3 (by decide) m_X6_rekey_4 rfl rfl (by decide +kernel) rfl rfl (Nat.le_of_ble_eq_true rfl) dX6_rekey_57 rfl ?_
        refine z_iload_n C dX6_rekey_60 rfl 3 rfl ?_
        exact z_iretW C hr hlk (by rw [hf]) (by rw [hf]) dX6_rekey_61
      · rw [if_pos c31] at hf
        have b31 := c31
        rw [← hu28] at c31
        refine z_bipush (v := (-2 : Int32)) C dX6_rekey_34 (by decide) ?_
        exact z_iretW C hr hlk (by rw [hf]) (by rw [hf]) dX6_rekey_36
  · rw [if_pos c4] at hf
    refine z_bipush (v := (-3 : Int32)) C dX6_rekey_7 (by decide) ?_
    exact z_iretW C hr hlk (by rw [hf]) (by rw [hf]) dX6_rekey_9
theorem z_lt9 {pn : Int32} {np : Nat} (hpn : pn = nI np) (hnp : np ≤ 9) (h : ¬ pn = 9) : np < 9 := by
  rcases Nat.lt_or_ge np 9 with q | q
  · exact q
  · exact absurd (by rw [hpn, show np = 9 by omega]; rfl) h
theorem z_pos {pn : Int32} {np : Nat} (hpn : pn = nI np) (h : ¬ pn = 0) : 0 < np := by
  rcases Nat.eq_zero_or_pos np with q | q
  · exact absurd (by rw [hpn, q]; rfl) h
  · exact q
theorem z_sub1 {x : Int32} {n : Nat} (e : x = nI n) (h : 1 ≤ n) : x - 1 = nI (n - 1) := by rw [e]; exact pk_sub (b := 1) h
theorem z_sub2 {x : Int32} {n : Nat} (e : x = nI n) (h : 2 ≤ n) : x - 2 = nI (n - 2) := by rw [e]; exact pk_sub (b := 2) h
theorem z_ix9 {x : Int32} {n : Nat} (e : x = nI n) (h : n < 9) : vp_in x 9 := z_ixN e h (by decide)
-- X6_threw
theorem i_X6_threw_6 : ∀ w ∈ u_ws RX6 TX6 30, w ∈ wsX6_threw := by decide +kernel
theorem m_X6_threw_1 : Cond.fieldLink RX6 68 "WishPinsModel" "pins" "I" ∈ wsX6_threw := List.mem_of_getElem? (i := 1) rfl
theorem m_X6_threw_2 : Cond.fieldLink RX6 7 "WishPinsModel" "kindOf" "[I" ∈ wsX6_threw := List.mem_of_getElem? (i := 2) rfl
theorem m_X6_threw_3 : Cond.fieldLink RX6 13 "WishPinsModel" "bendOf" "[I" ∈ wsX6_threw := List.mem_of_getElem? (i := 3) rfl
theorem m_X6_threw_4 : Cond.fieldLink RX6 16 "WishPinsModel" "yearOf" "[I" ∈ wsX6_threw := List.mem_of_getElem? (i := 4) rfl
theorem m_X6_threw_5 : Cond.fieldLink RX6 132 "WishPinsModel" "yearNow" "I" ∈ wsX6_threw := List.mem_of_getElem? (i := 5) rfl
def F_X6_threw (pn : Int32) (yn : Int32) (ko : Nat → Int32) (bo : Nat → Int32) (yo : Nat → Int32) (k : Int32) (b : Int32) : Int32 × Int32 × (Nat → Int32) × (Nat → Int32) × (Nat → Int32) :=
  (if pn = (9 : Int32) then ((0 : Int32), pn, ko, bo, yo) else ((1 : Int32), (pn + (1 : Int32)), (upd ko pn.toNatClampNeg k), (upd bo pn.toNatClampNeg b), (upd yo pn.toNatClampNeg yn)))
set_option maxHeartbeats 4000000 in
set_option maxRecDepth 100000 in
theorem c_X6_threw (l : Launch) (D : va_G) (cI cO : ClassId) (h6 : Nat) (q : Nat → Nat) (fl : Int32) (pn : Int32) (sl : Int32) (dr : Int32) (yn : Int32) (ra : Int32) (rp : Int32) (rs : Int32) (rd : Int32) (ry : Int32) (pk : Int32) (yk : Int32) (rg : Int32) (tc : Int32) (ko : Nat → Int32) (bo : Nat → Int32) (yo : Nat → Int32) (k : Int32) (b : Int32) (np : Nat) (hpn : pn = nI np) (hnp : np ≤ 9) : zW l yX6_threw wsX6_threw ({ frames := 0, cells := 0, slots := 0, locals := 0 } : Room) D cI cO [.ref h6, .int k, .int b] [(h6, .inr (6, fM fl pn sl dr yn ra rp rs rd ry pk yk rg tc q)), ((q 5), .inl (cI, 9, .inl ko)), ((q 6), .inl (cI, 9, .inl bo)), ((q 7), .inl (cI, 9, .inl yo))] [(h6, .inr (6, fM fl ((F_X6_threw pn yn ko bo yo k b).2.1) sl dr yn ra rp rs rd ry pk yk rg tc q)), ((q 5), .inl (cI, 9, .inl ((F_X6_threw pn yn ko bo yo k b).2.2.1))), ((q 6), .inl (cI, 9, .inl ((F_X6_threw pn yn ko bo yo k b).2.2.2.1))), ((q 7), .inl (cI, 9, .inl ((F_X6_threw pn yn ko bo yo k b).2.2.2.2)))] (some (.int ((F_X6_threw pn yn ko bo yo k b).1))) := by
  refine zW_of (nL := 3) (cc := cX6_threw) (ret := some .boolean) (lv := [(0, .ref h6), (1, .int k), (2, .int b)]) (by decide +kernel) rfl (Nat.le_of_ble_eq_true rfl) rfl (fun p e s m args below meth c C hr hlk => ?_)
  have hf := F_X6_threw.eq_1 pn yn ko bo yo k b
  refine z_aload_n C dX6_threw_0 rfl 0 rfl ?_
  refine z_get (T := TX6) (v := .int pn) C i_X6_threw_6 0 rfl rfl 1 (by decide) m_X6_threw_1 rfl rfl dX6_threw_1 ?_
  refine z_bipush (v := (9 : Int32)) C dX6_threw_4 (by decide) ?_
  refine z_icmp_ne (tgt := 11) C dX6_threw_6 (by decide) (fun c6 => ?_) (fun c6 => ?_)
  · rw [if_neg c6] at hf
    refine z_aload_n C dX6_threw_11 rfl 0 rfl ?_
    refine z_get (T := TX6) (v := .ref (q 5)) C i_X6_threw_6 0 rfl rfl 5 (by decide) m_X6_threw_2 rfl rfl dX6_threw_12 ?_
    refine z_aload_n C dX6_threw_15 rfl 0 rfl ?_
    refine z_get (T := TX6) (v := .int pn) C i_X6_threw_6 0 rfl rfl 1 (by decide) m_X6_threw_1 rfl rfl dX6_threw_16 ?_
    refine z_iload_n C dX6_threw_19 rfl 1 rfl ?_
    refine z_ast C [(h6, .inr (6, fM fl pn sl dr yn ra rp rs rd ry pk yk rg tc q)), ((q 5), .inl (cI, 9, .inl (upd ko pn.toNatClampNeg k))), ((q 6), .inl (cI, 9, .inl bo)), ((q 7), .inl (cI, 9, .inl yo))] 1 rfl (z_ix9 hpn (z_lt9 hpn hnp c6)) dX6_threw_20 rfl ?_
    refine z_aload_n C dX6_threw_21 rfl 0 rfl ?_
    refine z_get (T := TX6) (v := .ref (q 6)) C i_X6_threw_6 0 rfl rfl 6 (by decide) m_X6_threw_3 rfl rfl dX6_threw_22 ?_
    refine z_aload_n C dX6_threw_25 rfl 0 rfl ?_
    refine z_get (T := TX6) (v := .int pn) C i_X6_threw_6 0 rfl rfl 1 (by decide) m_X6_threw_1 rfl rfl dX6_threw_26 ?_
    refine z_iload_n C dX6_threw_29 rfl 2 rfl ?_
    refine z_ast C [(h6, .inr (6, fM fl pn sl dr yn ra rp rs rd ry pk yk rg tc q)), ((q 5), .inl (cI, 9, .inl (upd ko pn.toNatClampNeg k))), ((q 6), .inl (cI, 9, .inl (upd bo pn.toNatClampNeg b))), ((q 7), .inl (cI, 9, .inl yo))] 2 rfl (z_ix9 hpn (z_lt9 hpn hnp c6)) dX6_threw_30 rfl ?_
    refine z_aload_n C dX6_threw_31 rfl 0 rfl ?_
    refine z_get (T := TX6) (v := .ref (q 7)) C i_X6_threw_6 0 rfl rfl 7 (by decide) m_X6_threw_4 rfl rfl dX6_threw_32 ?_
    refine z_aload_n C dX6_threw_35 rfl 0 rfl ?_
    refine z_get (T := TX6) (v := .int pn) C i_X6_threw_6 0 rfl rfl 1 (by decide) m_X6_threw_1 rfl rfl dX6_threw_36 ?_
    refine z_aload_n C dX6_threw_39 rfl 0 rfl ?_
    refine z_get (T := TX6) (v := .int yn) C i_X6_threw_6 0 rfl rfl 4 (by decide) m_X6_threw_5 rfl rfl dX6_threw_40 ?_
    refine z_ast C [(h6, .inr (6, fM fl pn sl dr yn ra rp rs rd ry pk yk rg tc q)), ((q 5), .inl (cI, 9, .inl (upd ko pn.toNatClampNeg k))), ((q 6), .inl (cI, 9, .inl (upd bo pn.toNatClampNeg b))), ((q 7), .inl (cI, 9, .inl (upd yo pn.toNatClampNeg yn)))] 3 rfl (z_ix9 hpn (z_lt9 hpn hnp c6)) dX6_threw_43 rfl ?_
    refine z_aload_n C dX6_threw_44 rfl 0 rfl ?_
    refine z_dup C dX6_threw_45 rfl ?_
    refine z_get (T := TX6) (v := .int pn) C i_X6_threw_6 0 rfl rfl 1 (by decide) m_X6_threw_1 rfl rfl dX6_threw_46 ?_
    refine z_iconst (v := (1 : Int32)) C dX6_threw_49 (by decide) ?_
    refine z_iadd C dX6_threw_50 ?_
    refine z_put (T := TX6) (ty := .int) C [(h6, .inr (6, fM fl (pn + (1 : Int32)) sl dr yn ra rp rs rd ry pk yk rg tc q)), ((q 5), .inl (cI, 9, .inl (upd ko pn.toNatClampNeg k))), ((q 6), .inl (cI, 9, .inl (upd bo pn.toNatClampNeg b))), ((q 7), .inl (cI, 9, .inl (upd yo pn.toNatClampNeg yn)))] i_X6_threw_6 tyX6 tyX6_ok nmX6 0 rfl rfl 1 (by decide) m_X6_threw_1 rfl rfl (by decide +kernel) rfl rfl (Nat.le_of_ble_eq_true rfl) dX6_threw_51 rfl ?_
    refine z_iconst (v := (1 : Int32)) C dX6_threw_54 (by decide) ?_
    exact z_zretW C hr hlk rfl (by rw [hf]) (by rw [hf]) dX6_threw_55
  · rw [if_pos c6] at hf
    refine z_iconst (v := (0 : Int32)) C dX6_threw_9 (by decide) ?_
    exact z_zretW C hr hlk rfl (by rw [hf]) (by rw [hf]) dX6_threw_10
theorem nI_inj {a b : Nat} (ha : a < 2 ^ 31) (hb : b < 2 ^ 31) (h : nI a = nI b) : a = b := (nI_eq ha hb).mp h
theorem threw_np {pn yn : Int32} {ko bo yo : Nat → Int32} {k b : Int32} {np : Nat} (hpn : pn = nI np) (hnp : np ≤ 9) (h : ¬ (F_X6_threw pn yn ko bo yo k b).1 = 0) : np < 9 ∧ (F_X6_threw pn yn ko bo yo k b).2.1 = nI (np + 1) := by
  rw [F_X6_threw] at h ⊢
  by_cases c : pn = 9
  · rw [if_pos c] at h; exact absurd rfl h
  · rw [if_neg c]
    exact ⟨z_lt9 hpn hnp c, by rw [hpn]; exact nI_1 np⟩
theorem z_ltne {x pn : Int32} {j np : Nat} (e : x = nI j) (hp : pn = nI np) (hle : j ≤ np) (hne : ¬ x = pn) : j < np := by
  rcases Nat.lt_or_ge j np with q | q
  · exact q
  · exact absurd (by rw [e, hp, show j = np by omega]) hne
theorem z_dn {x : Int32} {a : Nat} (e : x = nI a - 1) (ha : a < 2 ^ 31) (h : ¬ x < 0) : 1 ≤ a ∧ x + (-1 : Int32) = nI (a - 1) - 1 ∧ x = nI (a - 1) := by
  rcases Nat.eq_zero_or_pos a with q | q
  · subst q; exact absurd (by rw [e]; decide) h
  · have e2 : x = nI (a - 1) := by rw [e]; exact pk_sub (b := 1) q
    exact ⟨q, by rw [e2, Int32.sub_eq_add_neg], e2⟩
theorem z_lne {x : Int64} (h : ¬ lg_cmp x 0 = 0) : ¬ x = 0 := fun e => h (by rw [e]; decide)
theorem lN_pos {x : Int64} {b : Nat} (e : x = lN b) (h : ¬ x = 0) : 0 < b := by
  rcases Nat.eq_zero_or_pos b with q | q
  · exact absurd (by rw [e, q]; rfl) h
  · exact q
theorem z_lt8 {rg : Int32} {nr : Nat} (hrg : rg = nI nr) (hnr : nr ≤ 8) (h : ¬ rg = 8) : nr < 8 := by
  rcases Nat.lt_or_ge nr 8 with q | q
  · exact q
  · exact absurd (by rw [hrg, show nr = 8 by omega]; rfl) h
theorem z_l0 {x : Int64} (h : lg_cmp x 0 = 0) : x = 0 := (lg_cmp_eq x 0).mp h
-- X6_throwIn
theorem m_X6_throwIn_1 : Cond.constantLong RX6 117 (2) ∈ wsX6_throwIn := List.mem_of_getElem? (i := 1) rfl
theorem m_X6_throwIn_2 : Cond.constantLong RX6 153 (9) ∈ wsX6_throwIn := List.mem_of_getElem? (i := 2) rfl
theorem i_X6_throwIn_6 : ∀ w ∈ u_ws RX6 TX6 30, w ∈ wsX6_throwIn := by decide +kernel
theorem m_X6_throwIn_3 : Cond.fieldLink RX6 68 "WishPinsModel" "pins" "I" ∈ wsX6_throwIn := List.mem_of_getElem? (i := 3) rfl
def F_X6_throwIn (pn : Int32) (sl : Int32) (dr : Int32) (yn : Int32) (ko : Nat → Int32) (bo : Nat → Int32) (yo : Nat → Int32) (k : Int32) (b : Int32) : Int32 × Int32 × (Nat → Int32) × (Nat → Int32) × (Nat → Int32) :=
  (if (F_X6_in k.toInt64 (0 : Int64) (2 : Int64)) = 0 then ((-2 : Int32), pn, ko, bo, yo) else (if (F_X6_in b.toInt64 (0 : Int64) (9 : Int64)) = 0 then ((-2 : Int32), pn, ko, bo, yo) else (if pn = 0 then ((-3 : Int32), pn, ko, bo, yo) else (if (F_X6_threw pn yn ko bo yo k b).1 = 0 then ((-4 : Int32), (F_X6_threw pn yn ko bo yo k b).2.1, (F_X6_threw pn yn ko bo yo k b).2.2.1, (F_X6_threw pn yn ko bo yo k b).2.2.2.1, (F_X6_threw pn yn ko bo yo k b).2.2.2.2) else ((F_X6_wishOf sl dr (F_X6_threw pn yn ko bo yo k b).2.2.1 (F_X6_threw pn yn ko bo yo k b).2.2.2.1 (F_X6_threw pn yn ko bo yo k b).2.2.2.2 ((F_X6_threw pn yn ko bo yo k b).2.1 - (1 : Int32))), (F_X6_threw pn yn ko bo yo k b).2.1, (F_X6_threw pn yn ko bo yo k b).2.2.1, (F_X6_threw pn yn ko bo yo k b).2.2.2.1, (F_X6_threw pn yn ko bo yo k b).2.2.2.2)))))
set_option maxHeartbeats 4000000 in
set_option maxRecDepth 100000 in
theorem c_X6_throwIn (l : Launch) (D : va_G) (cI cO : ClassId) (h6 : Nat) (q : Nat → Nat) (fl : Int32) (pn : Int32) (sl : Int32) (dr : Int32) (yn : Int32) (ra : Int32) (rp : Int32) (rs : Int32) (rd : Int32) (ry : Int32) (pk : Int32) (yk : Int32) (rg : Int32) (tc : Int32) (ko : Nat → Int32) (bo : Nat → Int32) (yo : Nat → Int32) (k : Int32) (b : Int32) (np : Nat) (hpn : pn = nI np) (hnp : np ≤ 9) : zW l yX6_throwIn wsX6_throwIn ({ frames := 3, cells := 0, slots := 0, locals := 63 } : Room) D cI cO [.ref h6, .int k, .int b] [(h6, .inr (6, fM fl pn sl dr yn ra rp rs rd ry pk yk rg tc q)), ((q 5), .inl (cI, 9, .inl ko)), ((q 6), .inl (cI, 9, .inl bo)), ((q 7), .inl (cI, 9, .inl yo))] [(h6, .inr (6, fM fl ((F_X6_throwIn pn sl dr yn ko bo yo k b).2.1) sl dr yn ra rp rs rd ry pk yk rg tc q)), ((q 5), .inl (cI, 9, .inl ((F_X6_throwIn pn sl dr yn ko bo yo k b).2.2.1))), ((q 6), .inl (cI, 9, .inl ((F_X6_throwIn pn sl dr yn ko bo yo k b).2.2.2.1))), ((q 7), .inl (cI, 9, .inl ((F_X6_throwIn pn sl dr yn ko bo yo k b).2.2.2.2)))] (some (.int ((F_X6_throwIn pn sl dr yn ko bo yo k b).1))) := by
  refine zW_of (nL := 3) (cc := cX6_throwIn) (ret := some .int) (lv := [(0, .ref h6), (1, .int k), (2, .int b)]) (by decide +kernel) rfl (Nat.le_of_ble_eq_true rfl) rfl (fun p e s m args below meth c C hr hlk => ?_)
  have hf := F_X6_throwIn.eq_1 pn sl dr yn ko bo yo k b
  refine z_iload_n C dX6_throwIn_0 rfl 1 rfl ?_
  refine z_i2l C dX6_throwIn_1 ?_
  refine z_lconst (v := (0 : Int64)) C dX6_throwIn_2 (by decide) ?_
  refine z_ldc2 C m_X6_throwIn_1 dX6_throwIn_3 ?_
  refine z_cSR (As := [.long k.toInt64, .long (0 : Int64), .long (2 : Int64)]) C (c_X6_in l D cI cO k.toInt64 (0 : Int64) (2 : Int64)) (va_cwS 3 C.2.2.2.2.1 gX6_throwIn_X6_in rfl rfl rfl hdS_X6_in ⟨Nat.le_of_ble_eq_true rfl, Nat.le_of_ble_eq_true rfl⟩) [] rfl rfl rfl _ rfl (Nat.le_of_ble_eq_true rfl) ⟨Nat.zero_le _, Nat.zero_le _⟩ dX6_throwIn_6 ?_
  generalize hu6 : (F_X6_in k.toInt64 (0 : Int64) (2 : Int64)) = u6 at hf ⊢
  refine z_if_eq (tgt := 24) C dX6_throwIn_9 (by decide) (fun c9 => ?_) (fun c9 => ?_)
  · rw [if_pos c9] at hf
    have b9 := c9
    rw [← hu6] at c9
    refine z_bipush (v := (-2 : Int32)) C dX6_throwIn_24 (by decide) ?_
    exact z_iretW C hr hlk (by rw [hf]) (by rw [hf]) dX6_throwIn_26
  · rw [if_neg c9] at hf
    have b9 := c9
    rw [← hu6] at c9
    refine z_iload_n C dX6_throwIn_12 rfl 2 rfl ?_
    refine z_i2l C dX6_throwIn_13 ?_
    refine z_lconst (v := (0 : Int64)) C dX6_throwIn_14 (by decide) ?_
    refine z_ldc2 C m_X6_throwIn_2 dX6_throwIn_15 ?_
    refine z_cSR (As := [.long b.toInt64, .long (0 : Int64), .long (9 : Int64)]) C (c_X6_in l D cI cO b.toInt64 (0 : Int64) (9 : Int64)) (va_cwS 3 C.2.2.2.2.1 gX6_throwIn_X6_in rfl rfl rfl hdS_X6_in ⟨Nat.le_of_ble_eq_true rfl, Nat.le_of_ble_eq_true rfl⟩) [] rfl rfl rfl _ rfl (Nat.le_of_ble_eq_true rfl) ⟨Nat.zero_le _, Nat.zero_le _⟩ dX6_throwIn_18 ?_
    generalize hu18 : (F_X6_in b.toInt64 (0 : Int64) (9 : Int64)) = u18 at hf ⊢
    refine z_if_ne (tgt := 27) C dX6_throwIn_21 (by decide) (fun c21 => ?_) (fun c21 => ?_)
    · rw [if_neg c21] at hf
      have b21 := c21
      rw [← hu18] at c21
      refine z_aload_n C dX6_throwIn_27 rfl 0 rfl ?_
      refine z_get (T := TX6) (v := .int pn) C i_X6_throwIn_6 0 rfl rfl 1 (by decide) m_X6_throwIn_3 rfl rfl dX6_throwIn_28 ?_
      refine z_if_ne (tgt := 37) C dX6_throwIn_31 (by decide) (fun c31 => ?_) (fun c31 => ?_)
      · rw [if_neg c31] at hf
        refine z_aload_n C dX6_throwIn_37 rfl 0 rfl ?_
        refine z_iload_n C dX6_throwIn_38 rfl 1 rfl ?_
        refine z_iload_n C dX6_throwIn_39 rfl 2 rfl ?_
        refine z_cVW (As := [.int k, .int b]) C (c_X6_threw l D cI cO h6 q fl pn sl dr yn ra rp rs rd ry pk yk rg tc ko bo yo k b np (by subst hu18 hu6; exact hpn) (by subst hu18 hu6; exact hnp)) (cwV 2 C.2.2.2.2.1 gX6_throwIn_X6_threw rfl rfl rfl hdV_X6_threw ⟨Nat.le_of_ble_eq_true rfl, Nat.le_of_ble_eq_true rfl⟩) [(h6, .inr (6, fM fl ((F_X6_threw pn yn ko bo yo k b).2.1) sl dr yn ra rp rs rd ry pk yk rg tc q)), ((q 5), .inl (cI, 9, .inl ((F_X6_threw pn yn ko bo yo k b).2.2.1))), ((q 6), .inl (cI, 9, .inl ((F_X6_threw pn yn ko bo yo k b).2.2.2.1))), ((q 7), .inl (cI, 9, .inl ((F_X6_threw pn yn ko bo yo k b).2.2.2.2)))] [0, 1, 2, 3] rfl rfl (Eq.refl [h6, (q 5), (q 6), (q 7)]) rfl 0 rfl rfl rfl _ rfl (Nat.le_of_ble_eq_true rfl) ⟨Nat.zero_le _, Nat.zero_le _⟩ dX6_throwIn_40 ?_
        generalize hu40 : (F_X6_threw pn yn ko bo yo k b) = u40 at hf ⊢
        refine z_if_eq (tgt := 59) C dX6_throwIn_43 (by decide) (fun c43 => ?_) (fun c43 => ?_)
        · rw [if_pos c43] at hf
          have b43 := c43
          rw [← hu40] at c43
          refine z_bipush (v := (-4 : Int32)) C dX6_throwIn_59 (by decide) ?_
          exact z_iretW C hr hlk (by rw [hf]) (by rw [hf]) dX6_throwIn_61
        · rw [if_neg c43] at hf
          have b43 := c43
          rw [← hu40] at c43
          refine z_aload_n C dX6_throwIn_46 rfl 0 rfl ?_
          refine z_aload_n C dX6_throwIn_47 rfl 0 rfl ?_
          refine z_get (T := TX6) (v := .int u40.2.1) C i_X6_throwIn_6 0 rfl rfl 1 (by decide) m_X6_throwIn_3 rfl rfl dX6_throwIn_48 ?_
          refine z_iconst (v := (1 : Int32)) C dX6_throwIn_51 (by decide) ?_
          refine z_isub C dX6_throwIn_52 ?_
          refine z_cVR (As := [.int (u40.2.1 - (1 : Int32))]) C (c_X6_wishOf l D cI cO h6 q fl u40.2.1 sl dr yn ra rp rs rd ry pk yk rg tc u40.2.2.1 u40.2.2.2.1 u40.2.2.2.2 (u40.2.1 - (1 : Int32)) (by subst hu40 hu18 hu6; exact (z_ix9 (z_sub1 (threw_np hpn hnp c43).2 (by omega)) (by have := (threw_np hpn hnp c43).1; omega)))) (cwV 1 C.2.2.2.2.1 gX6_throwIn_X6_wishOf rfl rfl rfl hdV_X6_wishOf ⟨Nat.le_of_ble_eq_true rfl, Nat.le_of_ble_eq_true rfl⟩) [0, 1, 2, 3] rfl rfl 0 rfl rfl rfl _ rfl (Nat.le_of_ble_eq_true rfl) ⟨Nat.zero_le _, Nat.zero_le _⟩ dX6_throwIn_53 ?_
          generalize hu53 : (F_X6_wishOf sl dr u40.2.2.1 u40.2.2.2.1 u40.2.2.2.2 (u40.2.1 - (1 : Int32))) = u53 at hf ⊢
          refine z_goto (tgt := 61) C dX6_throwIn_56 (by decide) ?_
          exact z_iretW C hr hlk (by rw [hf]) (by rw [hf]) dX6_throwIn_61
      · rw [if_pos c31] at hf
        refine z_bipush (v := (-3 : Int32)) C dX6_throwIn_34 (by decide) ?_
        exact z_iretW C hr hlk (by rw [hf]) (by rw [hf]) dX6_throwIn_36
    · rw [if_pos c21] at hf
      have b21 := c21
      rw [← hu18] at c21
      refine z_bipush (v := (-2 : Int32)) C dX6_throwIn_24 (by decide) ?_
      exact z_iretW C hr hlk (by rw [hf]) (by rw [hf]) dX6_throwIn_26
-- X6_fish
theorem i_X6_fish_6 : ∀ w ∈ u_ws RX6 TX6 30, w ∈ wsX6_fish := by decide +kernel
theorem m_X6_fish_1 : Cond.fieldLink RX6 68 "WishPinsModel" "pins" "I" ∈ wsX6_fish := List.mem_of_getElem? (i := 1) rfl
theorem m_X6_fish_2 : Cond.fieldLink RX6 135 "WishPinsModel" "readings" "I" ∈ wsX6_fish := List.mem_of_getElem? (i := 2) rfl
def F_X6_fish (pn : Int32) (sl : Int32) (dr : Int32) (rg : Int32) (ko : Nat → Int32) (bo : Nat → Int32) (yo : Nat → Int32) : Int32 × Int32 × Int32 :=
  (if (2 : Int32) ≤ pn then ((F_X6_wishOf sl dr ko bo yo (pn - (1 : Int32))), (pn - (1 : Int32)), (0 : Int32)) else ((-3 : Int32), pn, rg))
set_option maxHeartbeats 4000000 in
set_option maxRecDepth 100000 in
theorem c_X6_fish (l : Launch) (D : va_G) (cI cO : ClassId) (h6 : Nat) (q : Nat → Nat) (fl : Int32) (pn : Int32) (sl : Int32) (dr : Int32) (yn : Int32) (ra : Int32) (rp : Int32) (rs : Int32) (rd : Int32) (ry : Int32) (pk : Int32) (yk : Int32) (rg : Int32) (tc : Int32) (ko : Nat → Int32) (bo : Nat → Int32) (yo : Nat → Int32) (np : Nat) (hpn : pn = nI np) (hnp : np ≤ 9) : zW l yX6_fish wsX6_fish ({ frames := 3, cells := 0, slots := 0, locals := 63 } : Room) D cI cO [.ref h6] [(h6, .inr (6, fM fl pn sl dr yn ra rp rs rd ry pk yk rg tc q)), ((q 5), .inl (cI, 9, .inl ko)), ((q 6), .inl (cI, 9, .inl bo)), ((q 7), .inl (cI, 9, .inl yo))] [(h6, .inr (6, fM fl ((F_X6_fish pn sl dr rg ko bo yo).2.1) sl dr yn ra rp rs rd ry pk yk ((F_X6_fish pn sl dr rg ko bo yo).2.2) tc q)), ((q 5), .inl (cI, 9, .inl ko)), ((q 6), .inl (cI, 9, .inl bo)), ((q 7), .inl (cI, 9, .inl yo))] (some (.int ((F_X6_fish pn sl dr rg ko bo yo).1))) := by
  refine zW_of (nL := 1) (cc := cX6_fish) (ret := some .int) (lv := [(0, .ref h6)]) (by decide +kernel) rfl (Nat.le_of_ble_eq_true rfl) rfl (fun p e s m args below meth c C hr hlk => ?_)
  have hf := F_X6_fish.eq_1 pn sl dr rg ko bo yo
  refine z_aload_n C dX6_fish_0 rfl 0 rfl ?_
  refine z_get (T := TX6) (v := .int pn) C i_X6_fish_6 0 rfl rfl 1 (by decide) m_X6_fish_1 rfl rfl dX6_fish_1 ?_
  refine z_iconst (v := (2 : Int32)) C dX6_fish_4 (by decide) ?_
  refine z_icmp_ge (tgt := 11) C dX6_fish_5 (by decide) (fun c5 => ?_) (fun c5 => ?_)
  · rw [if_pos c5] at hf
    refine z_aload_n C dX6_fish_11 rfl 0 rfl ?_
    refine z_dup C dX6_fish_12 rfl ?_
    refine z_get (T := TX6) (v := .int pn) C i_X6_fish_6 0 rfl rfl 1 (by decide) m_X6_fish_1 rfl rfl dX6_fish_13 ?_
    refine z_iconst (v := (1 : Int32)) C dX6_fish_16 (by decide) ?_
    refine z_isub C dX6_fish_17 ?_
    refine z_put (T := TX6) (ty := .int) C [(h6, .inr (6, fM fl (pn - (1 : Int32)) sl dr yn ra rp rs rd ry pk yk rg tc q)), ((q 5), .inl (cI, 9, .inl ko)), ((q 6), .inl (cI, 9, .inl bo)), ((q 7), .inl (cI, 9, .inl yo))] i_X6_fish_6 tyX6 tyX6_ok nmX6 0 rfl rfl 1 (by decide) m_X6_fish_1 rfl rfl (by decide +kernel) rfl rfl (Nat.le_of_ble_eq_true rfl) dX6_fish_18 rfl ?_
    refine z_aload_n C dX6_fish_21 rfl 0 rfl ?_
    refine z_iconst (v := (0 : Int32)) C dX6_fish_22 (by decide) ?_
    refine z_put (T := TX6) (ty := .int) C [(h6, .inr (6, fM fl (pn - (1 : Int32)) sl dr yn ra rp rs rd ry pk yk (0 : Int32) tc q)), ((q 5), .inl (cI, 9, .inl ko)), ((q 6), .inl (cI, 9, .inl bo)), ((q 7), .inl (cI, 9, .inl yo))] i_X6_fish_6 tyX6 tyX6_ok nmX6 0 rfl rfl 22 (by decide) m_X6_fish_2 rfl rfl (by decide +kernel) rfl rfl (Nat.le_of_ble_eq_true rfl) dX6_fish_23 rfl ?_
    refine z_aload_n C dX6_fish_26 rfl 0 rfl ?_
    refine z_aload_n C dX6_fish_27 rfl 0 rfl ?_
    refine z_get (T := TX6) (v := .int (pn - (1 : Int32))) C i_X6_fish_6 0 rfl rfl 1 (by decide) m_X6_fish_1 rfl rfl dX6_fish_28 ?_
    refine z_cVR (As := [.int (pn - (1 : Int32))]) C (c_X6_wishOf l D cI cO h6 q fl (pn - (1 : Int32)) sl dr yn ra rp rs rd ry pk yk (0 : Int32) tc ko bo yo (pn - (1 : Int32)) (z_ix9 (z_sub1 hpn (by have := z_jge (n := 2) hpn (by omega) (by decide) c5; omega)) (by have := z_jge (n := 2) hpn (by omega) (by decide) c5; omega))) (cwV 1 C.2.2.2.2.1 gX6_fish_X6_wishOf rfl rfl rfl hdV_X6_wishOf ⟨Nat.le_of_ble_eq_true rfl, Nat.le_of_ble_eq_true rfl⟩) [0, 1, 2, 3] rfl rfl 0 rfl rfl rfl _ rfl (Nat.le_of_ble_eq_true rfl) ⟨Nat.zero_le _, Nat.zero_le _⟩ dX6_fish_31 ?_
    generalize hu31 : (F_X6_wishOf sl dr ko bo yo (pn - (1 : Int32))) = u31 at hf ⊢
    exact z_iretW C hr hlk (by rw [hf]) (by rw [hf]) dX6_fish_34
  · rw [if_neg c5] at hf
    refine z_bipush (v := (-3 : Int32)) C dX6_fish_8 (by decide) ?_
    exact z_iretW C hr hlk (by rw [hf]) (by rw [hf]) dX6_fish_10
-- X6_years
theorem m_X6_years_1 : Cond.constantLong RX6 160 (99) ∈ wsX6_years := List.mem_of_getElem? (i := 1) rfl
theorem i_X6_years_6 : ∀ w ∈ u_ws RX6 TX6 30, w ∈ wsX6_years := by decide +kernel
theorem m_X6_years_2 : Cond.fieldLink RX6 68 "WishPinsModel" "pins" "I" ∈ wsX6_years := List.mem_of_getElem? (i := 2) rfl
theorem m_X6_years_3 : Cond.fieldLink RX6 132 "WishPinsModel" "yearNow" "I" ∈ wsX6_years := List.mem_of_getElem? (i := 3) rfl
def F_X6_years (pn : Int32) (yn : Int32) (n : Int32) : Int32 × Int32 :=
  (if (F_X6_in n.toInt64 (1 : Int64) (99 : Int64)) = 0 then ((-2 : Int32), yn) else (if pn = 0 then ((-3 : Int32), yn) else ((yn + n), (yn + n))))
set_option maxHeartbeats 4000000 in
set_option maxRecDepth 100000 in
theorem c_X6_years (l : Launch) (D : va_G) (cI cO : ClassId) (h6 : Nat) (q : Nat → Nat) (fl : Int32) (pn : Int32) (sl : Int32) (dr : Int32) (yn : Int32) (ra : Int32) (rp : Int32) (rs : Int32) (rd : Int32) (ry : Int32) (pk : Int32) (yk : Int32) (rg : Int32) (tc : Int32) (n : Int32) : zW l yX6_years wsX6_years ({ frames := 1, cells := 0, slots := 0, locals := 25 } : Room) D cI cO [.ref h6, .int n] [(h6, .inr (6, fM fl pn sl dr yn ra rp rs rd ry pk yk rg tc q))] [(h6, .inr (6, fM fl pn sl dr ((F_X6_years pn yn n).2) ra rp rs rd ry pk yk rg tc q))] (some (.int ((F_X6_years pn yn n).1))) := by
  refine zW_of (nL := 2) (cc := cX6_years) (ret := some .int) (lv := [(0, .ref h6), (1, .int n)]) (by decide +kernel) rfl (Nat.le_of_ble_eq_true rfl) rfl (fun p e s m args below meth c C hr hlk => ?_)
  have hf := F_X6_years.eq_1 pn yn n
  refine z_iload_n C dX6_years_0 rfl 1 rfl ?_
  refine z_i2l C dX6_years_1 ?_
  refine z_lconst (v := (1 : Int64)) C dX6_years_2 (by decide) ?_
  refine z_ldc2 C m_X6_years_1 dX6_years_3 ?_
  refine z_cSR (As := [.long n.toInt64, .long (1 : Int64), .long (99 : Int64)]) C (c_X6_in l D cI cO n.toInt64 (1 : Int64) (99 : Int64)) (va_cwS 3 C.2.2.2.2.1 gX6_years_X6_in rfl rfl rfl hdS_X6_in ⟨Nat.le_of_ble_eq_true rfl, Nat.le_of_ble_eq_true rfl⟩) [] rfl rfl rfl _ rfl (Nat.le_of_ble_eq_true rfl) ⟨Nat.zero_le _, Nat.zero_le _⟩ dX6_years_6 ?_
  generalize hu6 : (F_X6_in n.toInt64 (1 : Int64) (99 : Int64)) = u6 at hf ⊢
  refine z_if_ne (tgt := 15) C dX6_years_9 (by decide) (fun c9 => ?_) (fun c9 => ?_)
  · rw [if_neg c9] at hf
    have b9 := c9
    rw [← hu6] at c9
    refine z_aload_n C dX6_years_15 rfl 0 rfl ?_
    refine z_get (T := TX6) (v := .int pn) C i_X6_years_6 0 rfl rfl 1 (by decide) m_X6_years_2 rfl rfl dX6_years_16 ?_
    refine z_if_ne (tgt := 25) C dX6_years_19 (by decide) (fun c19 => ?_) (fun c19 => ?_)
    · rw [if_neg c19] at hf
      refine z_aload_n C dX6_years_25 rfl 0 rfl ?_
      refine z_dup C dX6_years_26 rfl ?_
      refine z_get (T := TX6) (v := .int yn) C i_X6_years_6 0 rfl rfl 4 (by decide) m_X6_years_3 rfl rfl dX6_years_27 ?_
      refine z_iload_n C dX6_years_30 rfl 1 rfl ?_
      refine z_iadd C dX6_years_31 ?_
      refine z_put (T := TX6) (ty := .int) C [(h6, .inr (6, fM fl pn sl dr (yn + n) ra rp rs rd ry pk yk rg tc q))] i_X6_years_6 tyX6 tyX6_ok nmX6 0 rfl rfl 4 (by decide) m_X6_years_3 rfl rfl (by decide +kernel) rfl rfl (Nat.le_of_ble_eq_true rfl) dX6_years_32 rfl ?_
      refine z_aload_n C dX6_years_35 rfl 0 rfl ?_
      refine z_get (T := TX6) (v := .int (yn + n)) C i_X6_years_6 0 rfl rfl 4 (by decide) m_X6_years_3 rfl rfl dX6_years_36 ?_
      exact z_iretW C hr hlk (by rw [hf]) (by rw [hf]) dX6_years_39
    · rw [if_pos c19] at hf
      refine z_bipush (v := (-3 : Int32)) C dX6_years_22 (by decide) ?_
      exact z_iretW C hr hlk (by rw [hf]) (by rw [hf]) dX6_years_24
  · rw [if_pos c9] at hf
    have b9 := c9
    rw [← hu6] at c9
    refine z_bipush (v := (-2 : Int32)) C dX6_years_12 (by decide) ?_
    exact z_iretW C hr hlk (by rw [hf]) (by rw [hf]) dX6_years_14
-- X6_wished
theorem i_X6_wished_6 : ∀ w ∈ u_ws RX6 TX6 30, w ∈ wsX6_wished := by decide +kernel
theorem m_X6_wished_1 : Cond.fieldLink RX6 68 "WishPinsModel" "pins" "I" ∈ wsX6_wished := List.mem_of_getElem? (i := 1) rfl
theorem m_X6_wished_2 : Cond.constantLong RX6 155 (5) ∈ wsX6_wished := List.mem_of_getElem? (i := 2) rfl
def F_X6_wished_k29 (x2_29 : Int32) (x3_29 : Int32) : Int32 :=
  x2_29
def F_X6_wished_l29 (pn : Int32) (sl : Int32) (dr : Int32) (ko : Nat → Int32) (bo : Nat → Int32) (yo : Nat → Int32) (v : Int32) (K_ : Int32 → Int32 → Int32) : Nat → Int32 → Int32 → Int32
  | 0, x2_29, x3_29 => K_ x2_29 x3_29
  | d29 + 1, x2_29, x3_29 => (if pn ≤ x3_29 then (K_ x2_29 x3_29) else (if (F_X6_wishOf sl dr ko bo yo x3_29) = v then (F_X6_wished_l29 pn sl dr ko bo yo v K_ d29 (x2_29 ||| ((1 : Int32) <<< (x3_29 &&& 31))) (x3_29 + (1 : Int32))) else (F_X6_wished_l29 pn sl dr ko bo yo v K_ d29 (x2_29 ||| (0 : Int32)) (x3_29 + (1 : Int32)))))
def F_X6_wished (pn : Int32) (sl : Int32) (dr : Int32) (ko : Nat → Int32) (bo : Nat → Int32) (yo : Nat → Int32) (v : Int32) : Int32 :=
  (if pn = 0 then (-3 : Int32) else (if (F_X6_in v.toInt64 (0 : Int64) (5 : Int64)) = 0 then (-2 : Int32) else (F_X6_wished_l29 pn sl dr ko bo yo v F_X6_wished_k29 10 (0 : Int32) (0 : Int32))))
set_option maxHeartbeats 4000000 in
set_option maxRecDepth 100000 in
theorem c_X6_wished (l : Launch) (D : va_G) (cI cO : ClassId) (h6 : Nat) (q : Nat → Nat) (fl : Int32) (pn : Int32) (sl : Int32) (dr : Int32) (yn : Int32) (ra : Int32) (rp : Int32) (rs : Int32) (rd : Int32) (ry : Int32) (pk : Int32) (yk : Int32) (rg : Int32) (tc : Int32) (ko : Nat → Int32) (bo : Nat → Int32) (yo : Nat → Int32) (v : Int32) (np : Nat) (hpn : pn = nI np) (hnp : np ≤ 9) : zR l yX6_wished wsX6_wished ({ frames := 3, cells := 0, slots := 0, locals := 63 } : Room) D cI cO [.ref h6, .int v] [(h6, .inr (6, fM fl pn sl dr yn ra rp rs rd ry pk yk rg tc q)), ((q 5), .inl (cI, 9, .inl ko)), ((q 6), .inl (cI, 9, .inl bo)), ((q 7), .inl (cI, 9, .inl yo))] (some (.int (F_X6_wished pn sl dr ko bo yo v))) := by
  refine zR_of (nL := 4) (cc := cX6_wished) (ret := some .int) (lv := [(0, .ref h6), (1, .int v)]) (by decide +kernel) rfl (Nat.le_of_ble_eq_true rfl) rfl (fun p e s m args below meth c C hr hlk => ?_)
  have hf := F_X6_wished.eq_1 pn sl dr ko bo yo v
  refine z_aload_n C dX6_wished_0 rfl 0 rfl ?_
  refine z_get (T := TX6) (v := .int pn) C i_X6_wished_6 0 rfl rfl 1 (by decide) m_X6_wished_1 rfl rfl dX6_wished_1 ?_
  refine z_if_ne (tgt := 10) C dX6_wished_4 (by decide) (fun c4 => ?_) (fun c4 => ?_)
  · rw [if_neg c4] at hf
    refine z_iload_n C dX6_wished_10 rfl 1 rfl ?_
    refine z_i2l C dX6_wished_11 ?_
    refine z_lconst (v := (0 : Int64)) C dX6_wished_12 (by decide) ?_
    refine z_ldc2 C m_X6_wished_2 dX6_wished_13 ?_
    refine z_cSR (As := [.long v.toInt64, .long (0 : Int64), .long (5 : Int64)]) C (c_X6_in l D cI cO v.toInt64 (0 : Int64) (5 : Int64)) (va_cwS 3 C.2.2.2.2.1 gX6_wished_X6_in rfl rfl rfl hdS_X6_in ⟨Nat.le_of_ble_eq_true rfl, Nat.le_of_ble_eq_true rfl⟩) [] rfl rfl rfl _ rfl (Nat.le_of_ble_eq_true rfl) ⟨Nat.zero_le _, Nat.zero_le _⟩ dX6_wished_16 ?_
    generalize hu16 : (F_X6_in v.toInt64 (0 : Int64) (5 : Int64)) = u16 at hf ⊢
    refine z_if_ne (tgt := 25) C dX6_wished_19 (by decide) (fun c19 => ?_) (fun c19 => ?_)
    · rw [if_neg c19] at hf
      have b19 := c19
      rw [← hu16] at c19
      refine z_iconst (v := (0 : Int32)) C dX6_wished_25 (by decide) ?_
      refine z_istore_n C [(0, .ref h6), (1, .int v), (2, .int (0 : Int32))] dX6_wished_26 rfl (by decide) [1, 2, 0] rfl ?_
      refine z_iconst (v := (0 : Int32)) C dX6_wished_27 (by decide) ?_
      refine z_istore_n C [(0, .ref h6), (1, .int v), (2, .int (0 : Int32)), (3, .int (0 : Int32))] dX6_wished_28 rfl (by decide) [1, 2, 3, 0] rfl ?_
      have X29 : ∀ (x2_29 : Int32) (x3_29 : Int32), F_X6_wished pn sl dr ko bo yo v = F_X6_wished_k29 x2_29 x3_29 → zG p l e ({ frames := 3, cells := 0, slots := 0, locals := 63 } : Room) s m args below meth c D (fun _ => True) (zXr s) 4 0 0 (MQ below (zQr (some (.int (F_X6_wished pn sl dr ko bo yo v)))) args s 0 0 (fun _ => False)) 62 [(0, .ref h6), (1, .int v), (2, .int x2_29), (3, .int x3_29)] [] [(h6, .inr (6, fM fl pn sl dr yn ra rp rs rd ry pk yk rg tc q)), ((q 5), .inl (cI, 9, .inl ko)), ((q 6), .inl (cI, 9, .inl bo)), ((q 7), .inl (cI, 9, .inl yo))] := by
        intro x2_29 x3_29 hf
        rw [F_X6_wished_k29] at hf
        skip
        refine z_iload_n C dX6_wished_62 rfl 2 rfl ?_
        exact z_iretR C hr hlk (by rw [hf]) dX6_wished_63
      have L29 : ∀ (d29 : Nat) (j : Nat) (x2_29 : Int32) (x3_29 : Int32) (e3 : x3_29 = nI j) (hj : j ≤ np) (hd : np < j + d29), F_X6_wished pn sl dr ko bo yo v = F_X6_wished_l29 pn sl dr ko bo yo v F_X6_wished_k29 d29 x2_29 x3_29 → zG p l e ({ frames := 3, cells := 0, slots := 0, locals := 63 } : Room) s m args below meth c D (fun _ => True) (zXr s) 4 0 0 (MQ below (zQr (some (.int (F_X6_wished pn sl dr ko bo yo v)))) args s 0 0 (fun _ => False)) 29 [(0, .ref h6), (1, .int v), (2, .int x2_29), (3, .int x3_29)] [] [(h6, .inr (6, fM fl pn sl dr yn ra rp rs rd ry pk yk rg tc q)), ((q 5), .inl (cI, 9, .inl ko)), ((q 6), .inl (cI, 9, .inl bo)), ((q 7), .inl (cI, 9, .inl yo))] := by
        intro d29
        induction d29 with
        | zero =>
          intro j x2_29 x3_29 e3 hj hd hf
          exfalso; omega
        | succ d29 ih29 =>
          intro j x2_29 x3_29 e3 hj hd hf
          rw [F_X6_wished_l29] at hf
          skip
          refine z_iload_n C dX6_wished_29 rfl 3 rfl ?_
          refine z_aload_n C dX6_wished_30 rfl 0 rfl ?_
          refine z_get (T := TX6) (v := .int pn) C i_X6_wished_6 0 rfl rfl 1 (by decide) m_X6_wished_1 rfl rfl dX6_wished_31 ?_
          refine z_icmp_ge (tgt := 62) C dX6_wished_34 (by decide) (fun c34 => ?_) (fun c34 => ?_)
          · rw [if_pos c34] at hf
            exact X29 x2_29 x3_29  hf
          · rw [if_neg c34] at hf
            refine z_iload_n C dX6_wished_37 rfl 2 rfl ?_
            refine z_aload_n C dX6_wished_38 rfl 0 rfl ?_
            refine z_iload_n C dX6_wished_39 rfl 3 rfl ?_
            refine z_cVR (As := [.int x3_29]) C (c_X6_wishOf l D cI cO h6 q fl pn sl dr yn ra rp rs rd ry pk yk rg tc ko bo yo x3_29 (by subst hu16; exact (z_ix9 e3 (Nat.lt_of_lt_of_le (z_jlt e3 (by omega) (z_tiN hpn (by omega)) c34) hnp)))) (cwV 1 C.2.2.2.2.1 gX6_wished_X6_wishOf rfl rfl rfl hdV_X6_wishOf ⟨Nat.le_of_ble_eq_true rfl, Nat.le_of_ble_eq_true rfl⟩) [0, 1, 2, 3] rfl rfl 0 rfl rfl rfl _ rfl (Nat.le_of_ble_eq_true rfl) ⟨Nat.zero_le _, Nat.zero_le _⟩ dX6_wished_40 ?_
            generalize hu40 : (F_X6_wishOf sl dr ko bo yo x3_29) = u40 at hf ⊢
            refine z_iload_n C dX6_wished_43 rfl 1 rfl ?_
            refine z_icmp_ne (tgt := 53) C dX6_wished_44 (by decide) (fun c44 => ?_) (fun c44 => ?_)
            · rw [if_neg c44] at hf
              have b44 := c44
              rw [← hu40] at c44
              refine z_iconst (v := (0 : Int32)) C dX6_wished_53 (by decide) ?_
              refine z_ior C dX6_wished_54 ?_
              refine z_istore_n C [(0, .ref h6), (1, .int v), (2, .int (x2_29 ||| (0 : Int32))), (3, .int x3_29)] dX6_wished_55 rfl (by decide) [1, 2, 0, 3] rfl ?_
              refine z_iinc (v := (x3_29 + (1 : Int32))) C [(0, .ref h6), (1, .int v), (2, .int (x2_29 ||| (0 : Int32))), (3, .int (x3_29 + (1 : Int32)))] dX6_wished_56 3 rfl (by rfl) (by decide) [1, 2, 3, 0] rfl ?_
              refine z_goto (tgt := 29) C dX6_wished_59 (by decide) ?_
              exact ih29 (j + 1) (x2_29 ||| (0 : Int32)) (x3_29 + (1 : Int32)) (by subst hu40 hu16; exact (by rw [e3]; exact nI_1 j)) (by subst hu40 hu16; exact (by have := z_jlt e3 (by omega) (z_tiN hpn (by omega)) c34; omega)) (by omega) hf
            · rw [if_pos c44] at hf
              have b44 := c44
              rw [← hu40] at c44
              refine z_iconst (v := (1 : Int32)) C dX6_wished_47 (by decide) ?_
              refine z_iload_n C dX6_wished_48 rfl 3 rfl ?_
              refine z_ishl C dX6_wished_49 ?_
              refine z_goto (tgt := 54) C dX6_wished_50 (by decide) ?_
              refine z_ior C dX6_wished_54 ?_
              refine z_istore_n C [(0, .ref h6), (1, .int v), (2, .int (x2_29 ||| ((1 : Int32) <<< (x3_29 &&& 31)))), (3, .int x3_29)] dX6_wished_55 rfl (by decide) [1, 2, 0, 3] rfl ?_
              refine z_iinc (v := (x3_29 + (1 : Int32))) C [(0, .ref h6), (1, .int v), (2, .int (x2_29 ||| ((1 : Int32) <<< (x3_29 &&& 31)))), (3, .int (x3_29 + (1 : Int32)))] dX6_wished_56 3 rfl (by rfl) (by decide) [1, 2, 3, 0] rfl ?_
              refine z_goto (tgt := 29) C dX6_wished_59 (by decide) ?_
              exact ih29 (j + 1) (x2_29 ||| ((1 : Int32) <<< (x3_29 &&& 31))) (x3_29 + (1 : Int32)) (by subst hu40 hu16; exact (by rw [e3]; exact nI_1 j)) (by subst hu40 hu16; exact (by have := z_jlt e3 (by omega) (z_tiN hpn (by omega)) c34; omega)) (by omega) hf
      exact L29 10 0 (0 : Int32) (0 : Int32) (by subst hu16; exact nI_0.symm) (by subst hu16; exact (Nat.zero_le _)) (by omega) hf
    · rw [if_pos c19] at hf
      have b19 := c19
      rw [← hu16] at c19
      refine z_bipush (v := (-2 : Int32)) C dX6_wished_22 (by decide) ?_
      exact z_iretR C hr hlk (by rw [hf]) dX6_wished_24
  · rw [if_pos c4] at hf
    refine z_bipush (v := (-3 : Int32)) C dX6_wished_7 (by decide) ?_
    exact z_iretR C hr hlk (by rw [hf]) dX6_wished_9
-- X6_isPair
theorem m_X6_isPair_1 : Cond.constantLong RX6 168 (4) ∈ wsX6_isPair := List.mem_of_getElem? (i := 1) rfl
theorem m_X6_isPair_3 : Cond.constantLong RX6 160 (99) ∈ wsX6_isPair := List.mem_of_getElem? (i := 3) rfl
theorem m_X6_isPair_2 : Cond.constantLong RX6 153 (9) ∈ wsX6_isPair := List.mem_of_getElem? (i := 2) rfl
def F_X6_isPair (a : Int32) (b : Int32) : Int32 :=
  (if (F_X6_in b.toInt64 (0 : Int64) (4 : Int64)) = 0 then (0 : Int32) else (if (3 : Int32) ≤ b then (if b = (3 : Int32) then (if (F_X6_in a.toInt64 (0 : Int64) (99 : Int64)) = 0 then (0 : Int32) else (1 : Int32)) else (if (F_X6_in a.toInt64 (0 : Int64) (0 : Int64)) = 0 then (0 : Int32) else (1 : Int32))) else (if (F_X6_in a.toInt64 (0 : Int64) (9 : Int64)) = 0 then (0 : Int32) else (1 : Int32))))
set_option maxHeartbeats 4000000 in
set_option maxRecDepth 100000 in
theorem c_X6_isPair (l : Launch) (D : va_G) (cI cO : ClassId) (a : Int32) (b : Int32) : zR l yX6_isPair wsX6_isPair ({ frames := 1, cells := 0, slots := 0, locals := 25 } : Room) D cI cO [.int a, .int b] [] (some (.int (F_X6_isPair a b))) := by
  refine zR_of (nL := 2) (cc := cX6_isPair) (ret := some .boolean) (lv := [(0, .int a), (1, .int b)]) (by decide +kernel) rfl (Nat.le_of_ble_eq_true rfl) rfl (fun p e s m args below meth c C hr hlk => ?_)
  have hf := F_X6_isPair.eq_1 a b
  refine z_iload_n C dX6_isPair_0 rfl 1 rfl ?_
  refine z_i2l C dX6_isPair_1 ?_
  refine z_lconst (v := (0 : Int64)) C dX6_isPair_2 (by decide) ?_
  refine z_ldc2 C m_X6_isPair_1 dX6_isPair_3 ?_
  refine z_cSR (As := [.long b.toInt64, .long (0 : Int64), .long (4 : Int64)]) C (c_X6_in l D cI cO b.toInt64 (0 : Int64) (4 : Int64)) (va_cwS 3 C.2.2.2.2.1 gX6_isPair_X6_in rfl rfl rfl hdS_X6_in ⟨Nat.le_of_ble_eq_true rfl, Nat.le_of_ble_eq_true rfl⟩) [] rfl rfl rfl _ rfl (Nat.le_of_ble_eq_true rfl) ⟨Nat.zero_le _, Nat.zero_le _⟩ dX6_isPair_6 ?_
  generalize hu6 : (F_X6_in b.toInt64 (0 : Int64) (4 : Int64)) = u6 at hf ⊢
  refine z_if_eq (tgt := 48) C dX6_isPair_9 (by decide) (fun c9 => ?_) (fun c9 => ?_)
  · rw [if_pos c9] at hf
    have b9 := c9
    rw [← hu6] at c9
    refine z_iconst (v := (0 : Int32)) C dX6_isPair_48 (by decide) ?_
    exact z_zretR C hr hlk rfl (by rw [hf]) dX6_isPair_49
  · rw [if_neg c9] at hf
    have b9 := c9
    rw [← hu6] at c9
    refine z_iload_n C dX6_isPair_12 rfl 0 rfl ?_
    refine z_i2l C dX6_isPair_13 ?_
    refine z_lconst (v := (0 : Int64)) C dX6_isPair_14 (by decide) ?_
    refine z_iload_n C dX6_isPair_15 rfl 1 rfl ?_
    refine z_iconst (v := (3 : Int32)) C dX6_isPair_16 (by decide) ?_
    refine z_icmp_ge (tgt := 26) C dX6_isPair_17 (by decide) (fun c17 => ?_) (fun c17 => ?_)
    · rw [if_pos c17] at hf
      refine z_iload_n C dX6_isPair_26 rfl 1 rfl ?_
      refine z_iconst (v := (3 : Int32)) C dX6_isPair_27 (by decide) ?_
      refine z_icmp_ne (tgt := 37) C dX6_isPair_28 (by decide) (fun c28 => ?_) (fun c28 => ?_)
      · rw [if_neg c28] at hf
        refine z_lconst (v := (0 : Int64)) C dX6_isPair_37 (by decide) ?_
        refine z_cSR (As := [.long a.toInt64, .long (0 : Int64), .long (0 : Int64)]) C (c_X6_in l D cI cO a.toInt64 (0 : Int64) (0 : Int64)) (va_cwS 3 C.2.2.2.2.1 gX6_isPair_X6_in rfl rfl rfl hdS_X6_in ⟨Nat.le_of_ble_eq_true rfl, Nat.le_of_ble_eq_true rfl⟩) [] rfl rfl rfl _ rfl (Nat.le_of_ble_eq_true rfl) ⟨Nat.zero_le _, Nat.zero_le _⟩ dX6_isPair_38 ?_
        generalize hu38 : (F_X6_in a.toInt64 (0 : Int64) (0 : Int64)) = u38 at hf ⊢
        refine z_if_eq (tgt := 48) C dX6_isPair_41 (by decide) (fun c41 => ?_) (fun c41 => ?_)
        · rw [if_pos c41] at hf
          have b41 := c41
          rw [← hu38] at c41
          refine z_iconst (v := (0 : Int32)) C dX6_isPair_48 (by decide) ?_
          exact z_zretR C hr hlk rfl (by rw [hf]) dX6_isPair_49
        · rw [if_neg c41] at hf
          have b41 := c41
          rw [← hu38] at c41
          refine z_iconst (v := (1 : Int32)) C dX6_isPair_44 (by decide) ?_
          refine z_goto (tgt := 49) C dX6_isPair_45 (by decide) ?_
          exact z_zretR C hr hlk rfl (by rw [hf]) dX6_isPair_49
      · rw [if_pos c28] at hf
        refine z_ldc2 C m_X6_isPair_3 dX6_isPair_31 ?_
        refine z_goto (tgt := 38) C dX6_isPair_34 (by decide) ?_
        refine z_cSR (As := [.long a.toInt64, .long (0 : Int64), .long (99 : Int64)]) C (c_X6_in l D cI cO a.toInt64 (0 : Int64) (99 : Int64)) (va_cwS 3 C.2.2.2.2.1 gX6_isPair_X6_in rfl rfl rfl hdS_X6_in ⟨Nat.le_of_ble_eq_true rfl, Nat.le_of_ble_eq_true rfl⟩) [] rfl rfl rfl _ rfl (Nat.le_of_ble_eq_true rfl) ⟨Nat.zero_le _, Nat.zero_le _⟩ dX6_isPair_38 ?_
        generalize hu38 : (F_X6_in a.toInt64 (0 : Int64) (99 : Int64)) = u38 at hf ⊢
        refine z_if_eq (tgt := 48) C dX6_isPair_41 (by decide) (fun c41 => ?_) (fun c41 => ?_)
        · rw [if_pos c41] at hf
          have b41 := c41
          rw [← hu38] at c41
          refine z_iconst (v := (0 : Int32)) C dX6_isPair_48 (by decide) ?_
          exact z_zretR C hr hlk rfl (by rw [hf]) dX6_isPair_49
        · rw [if_neg c41] at hf
          have b41 := c41
          rw [← hu38] at c41
          refine z_iconst (v := (1 : Int32)) C dX6_isPair_44 (by decide) ?_
          refine z_goto (tgt := 49) C dX6_isPair_45 (by decide) ?_
          exact z_zretR C hr hlk rfl (by rw [hf]) dX6_isPair_49
    · rw [if_neg c17] at hf
      refine z_ldc2 C m_X6_isPair_2 dX6_isPair_20 ?_
      refine z_goto (tgt := 38) C dX6_isPair_23 (by decide) ?_
      refine z_cSR (As := [.long a.toInt64, .long (0 : Int64), .long (9 : Int64)]) C (c_X6_in l D cI cO a.toInt64 (0 : Int64) (9 : Int64)) (va_cwS 3 C.2.2.2.2.1 gX6_isPair_X6_in rfl rfl rfl hdS_X6_in ⟨Nat.le_of_ble_eq_true rfl, Nat.le_of_ble_eq_true rfl⟩) [] rfl rfl rfl _ rfl (Nat.le_of_ble_eq_true rfl) ⟨Nat.zero_le _, Nat.zero_le _⟩ dX6_isPair_38 ?_
      generalize hu38 : (F_X6_in a.toInt64 (0 : Int64) (9 : Int64)) = u38 at hf ⊢
      refine z_if_eq (tgt := 48) C dX6_isPair_41 (by decide) (fun c41 => ?_) (fun c41 => ?_)
      · rw [if_pos c41] at hf
        have b41 := c41
        rw [← hu38] at c41
        refine z_iconst (v := (0 : Int32)) C dX6_isPair_48 (by decide) ?_
        exact z_zretR C hr hlk rfl (by rw [hf]) dX6_isPair_49
      · rw [if_neg c41] at hf
        have b41 := c41
        rw [← hu38] at c41
        refine z_iconst (v := (1 : Int32)) C dX6_isPair_44 (by decide) ?_
        refine z_goto (tgt := 49) C dX6_isPair_45 (by decide) ?_
        exact z_zretR C hr hlk rfl (by rw [hf]) dX6_isPair_49
-- X6_keepAll
theorem i_X6_keepAll_6 : ∀ w ∈ u_ws RX6 TX6 30, w ∈ wsX6_keepAll := by decide +kernel
theorem m_X6_keepAll_1 : Cond.fieldLink RX6 68 "WishPinsModel" "pins" "I" ∈ wsX6_keepAll := List.mem_of_getElem? (i := 1) rfl
theorem m_X6_keepAll_2 : Cond.fieldLink RX6 162 "WishPinsModel" "pinsKept" "I" ∈ wsX6_keepAll := List.mem_of_getElem? (i := 2) rfl
theorem m_X6_keepAll_3 : Cond.fieldLink RX6 132 "WishPinsModel" "yearNow" "I" ∈ wsX6_keepAll := List.mem_of_getElem? (i := 3) rfl
theorem m_X6_keepAll_4 : Cond.fieldLink RX6 165 "WishPinsModel" "yearKept" "I" ∈ wsX6_keepAll := List.mem_of_getElem? (i := 4) rfl
theorem m_X6_keepAll_5 : Cond.fieldLink RX6 28 "WishPinsModel" "kindKept" "[I" ∈ wsX6_keepAll := List.mem_of_getElem? (i := 5) rfl
theorem m_X6_keepAll_6 : Cond.fieldLink RX6 7 "WishPinsModel" "kindOf" "[I" ∈ wsX6_keepAll := List.mem_of_getElem? (i := 6) rfl
theorem m_X6_keepAll_7 : Cond.fieldLink RX6 31 "WishPinsModel" "bendKept" "[I" ∈ wsX6_keepAll := List.mem_of_getElem? (i := 7) rfl
theorem m_X6_keepAll_8 : Cond.fieldLink RX6 13 "WishPinsModel" "bendOf" "[I" ∈ wsX6_keepAll := List.mem_of_getElem? (i := 8) rfl
theorem m_X6_keepAll_9 : Cond.fieldLink RX6 34 "WishPinsModel" "thrownKept" "[I" ∈ wsX6_keepAll := List.mem_of_getElem? (i := 9) rfl
theorem m_X6_keepAll_10 : Cond.fieldLink RX6 16 "WishPinsModel" "yearOf" "[I" ∈ wsX6_keepAll := List.mem_of_getElem? (i := 10) rfl
def F_X6_keepAll_k18 (pn : Int32) (yn : Int32) (x1_18 : Int32) (kk_18 : Nat → Int32) (bk_18 : Nat → Int32) (tk_18 : Nat → Int32) : Int32 × Int32 × (Nat → Int32) × (Nat → Int32) × (Nat → Int32) :=
  (pn, yn, kk_18, bk_18, tk_18)
def F_X6_keepAll_l18 (ko : Nat → Int32) (bo : Nat → Int32) (yo : Nat → Int32) (K_ : Int32 → (Nat → Int32) → (Nat → Int32) → (Nat → Int32) → Int32 × Int32 × (Nat → Int32) × (Nat → Int32) × (Nat → Int32)) : Nat → Int32 → (Nat → Int32) → (Nat → Int32) → (Nat → Int32) → Int32 × Int32 × (Nat → Int32) × (Nat → Int32) × (Nat → Int32)
  | 0, x1_18, kk_18, bk_18, tk_18 => K_ x1_18 kk_18 bk_18 tk_18
  | d18 + 1, x1_18, kk_18, bk_18, tk_18 => (if (9 : Int32) ≤ x1_18 then (K_ x1_18 kk_18 bk_18 tk_18) else (F_X6_keepAll_l18 ko bo yo K_ d18 (x1_18 + (1 : Int32)) (upd kk_18 x1_18.toNatClampNeg (ko x1_18.toNatClampNeg)) (upd bk_18 x1_18.toNatClampNeg (bo x1_18.toNatClampNeg)) (upd tk_18 x1_18.toNatClampNeg (yo x1_18.toNatClampNeg))))
def F_X6_keepAll (pn : Int32) (yn : Int32) (ko : Nat → Int32) (bo : Nat → Int32) (yo : Nat → Int32) (kk : Nat → Int32) (bk : Nat → Int32) (tk : Nat → Int32) : Int32 × Int32 × (Nat → Int32) × (Nat → Int32) × (Nat → Int32) :=
  (F_X6_keepAll_l18 ko bo yo (F_X6_keepAll_k18 pn yn) 10 (0 : Int32) kk bk tk)
set_option maxHeartbeats 4000000 in
set_option maxRecDepth 100000 in
theorem c_X6_keepAll (l : Launch) (D : va_G) (cI cO : ClassId) (h6 : Nat) (q : Nat → Nat) (fl : Int32) (pn : Int32) (sl : Int32) (dr : Int32) (yn : Int32) (ra : Int32) (rp : Int32) (rs : Int32) (rd : Int32) (ry : Int32) (pk : Int32) (yk : Int32) (rg : Int32) (tc : Int32) (ko : Nat → Int32) (bo : Nat → Int32) (yo : Nat → Int32) (kk : Nat → Int32) (bk : Nat → Int32) (tk : Nat → Int32) : zW l yX6_keepAll wsX6_keepAll ({ frames := 0, cells := 0, slots := 0, locals := 0 } : Room) D cI cO [.ref h6] [(h6, .inr (6, fM fl pn sl dr yn ra rp rs rd ry pk yk rg tc q)), ((q 5), .inl (cI, 9, .inl ko)), ((q 6), .inl (cI, 9, .inl bo)), ((q 7), .inl (cI, 9, .inl yo)), ((q 18), .inl (cI, 9, .inl kk)), ((q 19), .inl (cI, 9, .inl bk)), ((q 20), .inl (cI, 9, .inl tk))] [(h6, .inr (6, fM fl pn sl dr yn ra rp rs rd ry ((F_X6_keepAll pn yn ko bo yo kk bk tk).1) ((F_X6_keepAll pn yn ko bo yo kk bk tk).2.1) rg tc q)), ((q 5), .inl (cI, 9, .inl ko)), ((q 6), .inl (cI, 9, .inl bo)), ((q 7), .inl (cI, 9, .inl yo)), ((q 18), .inl (cI, 9, .inl ((F_X6_keepAll pn yn ko bo yo kk bk tk).2.2.1))), ((q 19), .inl (cI, 9, .inl ((F_X6_keepAll pn yn ko bo yo kk bk tk).2.2.2.1))), ((q 20), .inl (cI, 9, .inl ((F_X6_keepAll pn yn ko bo yo kk bk tk).2.2.2.2)))] none := by
  refine zW_of (nL := 2) (cc := cX6_keepAll) (ret := none) (lv := [(0, .ref h6)]) (by decide +kernel) rfl (Nat.le_of_ble_eq_true rfl) rfl (fun p e s m args below meth c C hr hlk => ?_)
  have hf := F_X6_keepAll.eq_1 pn yn ko bo yo kk bk tk
  refine z_aload_n C dX6_keepAll_0 rfl 0 rfl ?_
  refine z_aload_n C dX6_keepAll_1 rfl 0 rfl ?_
  refine z_get (T := TX6) (v := .int pn) C i_X6_keepAll_6 0 rfl rfl 1 (by decide) m_X6_keepAll_1 rfl rfl dX6_keepAll_2 ?_
  refine z_put (T := TX6) (ty := .int) C [(h6, .inr (6, fM fl pn sl dr yn ra rp rs rd ry pn yk rg tc q)), ((q 5), .inl (cI, 9, .inl ko)), ((q 6), .inl (cI, 9, .inl bo)), ((q 7), .inl (cI, 9, .inl yo)), ((q 18), .inl (cI, 9, .inl kk)), ((q 19), .inl (cI, 9, .inl bk)), ((q 20), .inl (cI, 9, .inl tk))] i_X6_keepAll_6 tyX6 tyX6_ok nmX6 0 rfl rfl 16 (by decide) m_X6_keepAll_2 rfl rfl (by decide +kernel) rfl rfl (Nat.le_of_ble_eq_true rfl) dX6_keepAll_5 rfl ?_
  refine z_aload_n C dX6_keepAll_8 rfl 0 rfl ?_
  refine z_aload_n C dX6_keepAll_9 rfl 0 rfl ?_
  refine z_get (T := TX6) (v := .int yn) C i_X6_keepAll_6 0 rfl rfl 4 (by decide) m_X6_keepAll_3 rfl rfl dX6_keepAll_10 ?_
  refine z_put (T := TX6) (ty := .int) C [(h6, .inr (6, fM fl pn sl dr yn ra rp rs rd ry pn yn rg tc q)), ((q 5), .inl (cI, 9, .inl ko)), ((q 6), .inl (cI, 9, .inl bo)), ((q 7), .inl (cI, 9, .inl yo)), ((q 18), .inl (cI, 9, .inl kk)), ((q 19), .inl (cI, 9, .inl bk)), ((q 20), .inl (cI, 9, .inl tk))] i_X6_keepAll_6 tyX6 tyX6_ok nmX6 0 rfl rfl 17 (by decide) m_X6_keepAll_4 rfl rfl (by decide +kernel) rfl rfl (Nat.le_of_ble_eq_true rfl) dX6_keepAll_13 rfl ?_
  refine z_iconst (v := (0 : Int32)) C dX6_keepAll_16 (by decide) ?_
  refine z_istore_n C [(0, .ref h6), (1, .int (0 : Int32))] dX6_keepAll_17 rfl (by decide) [1, 0] rfl ?_
  have X18 : ∀ (x1_18 : Int32) (kk_18 : Nat → Int32) (bk_18 : Nat → Int32) (tk_18 : Nat → Int32), F_X6_keepAll pn yn ko bo yo kk bk tk = (F_X6_keepAll_k18 pn yn) x1_18 kk_18 bk_18 tk_18 → zG p l e ({ frames := 0, cells := 0, slots := 0, locals := 0 } : Room) s m args below meth c D (zA [(h6, .inr (6, fM fl pn sl dr yn ra rp rs rd ry pk yk rg tc q)), ((q 5), .inl (cI, 9, .inl ko)), ((q 6), .inl (cI, 9, .inl bo)), ((q 7), .inl (cI, 9, .inl yo)), ((q 18), .inl (cI, 9, .inl kk)), ((q 19), .inl (cI, 9, .inl bk)), ((q 20), .inl (cI, 9, .inl tk))]) (zXw (zA [(h6, .inr (6, fM fl pn sl dr yn ra rp rs rd ry pk yk rg tc q)), ((q 5), .inl (cI, 9, .inl ko)), ((q 6), .inl (cI, 9, .inl bo)), ((q 7), .inl (cI, 9, .inl yo)), ((q 18), .inl (cI, 9, .inl kk)), ((q 19), .inl (cI, 9, .inl bk)), ((q 20), .inl (cI, 9, .inl tk))]) s.heap) 2 0 0 (MQ below (zQw D [(h6, .inr (6, fM fl pn sl dr yn ra rp rs rd ry ((F_X6_keepAll pn yn ko bo yo kk bk tk).1) ((F_X6_keepAll pn yn ko bo yo kk bk tk).2.1) rg tc q)), ((q 5), .inl (cI, 9, .inl ko)), ((q 6), .inl (cI, 9, .inl bo)), ((q 7), .inl (cI, 9, .inl yo)), ((q 18), .inl (cI, 9, .inl ((F_X6_keepAll pn yn ko bo yo kk bk tk).2.2.1))), ((q 19), .inl (cI, 9, .inl ((F_X6_keepAll pn yn ko bo yo kk bk tk).2.2.2.1))), ((q 20), .inl (cI, 9, .inl ((F_X6_keepAll pn yn ko bo yo kk bk tk).2.2.2.2)))] (zA [(h6, .inr (6, fM fl pn sl dr yn ra rp rs rd ry pk yk rg tc q)), ((q 5), .inl (cI, 9, .inl ko)), ((q 6), .inl (cI, 9, .inl bo)), ((q 7), .inl (cI, 9, .inl yo)), ((q 18), .inl (cI, 9, .inl kk)), ((q 19), .inl (cI, 9, .inl bk)), ((q 20), .inl (cI, 9, .inl tk))]) none) args s 0 0 (zA [(h6, .inr (6, fM fl pn sl dr yn ra rp rs rd ry pk yk rg tc q)), ((q 5), .inl (cI, 9, .inl ko)), ((q 6), .inl (cI, 9, .inl bo)), ((q 7), .inl (cI, 9, .inl yo)), ((q 18), .inl (cI, 9, .inl kk)), ((q 19), .inl (cI, 9, .inl bk)), ((q 20), .inl (cI, 9, .inl tk))])) 66 [(0, .ref h6), (1, .int x1_18)] [] [(h6, .inr (6, fM fl pn sl dr yn ra rp rs rd ry pn yn rg tc q)), ((q 5), .inl (cI, 9, .inl ko)), ((q 6), .inl (cI, 9, .inl bo)), ((q 7), .inl (cI, 9, .inl yo)), ((q 18), .inl (cI, 9, .inl kk_18)), ((q 19), .inl (cI, 9, .inl bk_18)), ((q 20), .inl (cI, 9, .inl tk_18))] := by
    intro x1_18 kk_18 bk_18 tk_18 hf
    rw [F_X6_keepAll_k18] at hf
    skip
    exact z_vretW C hr hlk (by rw [hf]) dX6_keepAll_66
  have L18 : ∀ (d18 : Nat) (j : Nat) (x1_18 : Int32) (kk_18 : Nat → Int32) (bk_18 : Nat → Int32) (tk_18 : Nat → Int32) (e1 : x1_18 = nI j) (hj : j ≤ 9) (hd : 9 < j + d18), F_X6_keepAll pn yn ko bo yo kk bk tk = F_X6_keepAll_l18 ko bo yo (F_X6_keepAll_k18 pn yn) d18 x1_18 kk_18 bk_18 tk_18 → zG p l e ({ frames := 0, cells := 0, slots := 0, locals := 0 } : Room) s m args below meth c D (zA [(h6, .inr (6, fM fl pn sl dr yn ra rp rs rd ry pk yk rg tc q)), ((q 5), .inl (cI, 9, .inl ko)), ((q 6), .inl (cI, 9, .inl bo)), ((q 7), .inl (cI, 9, .inl yo)), ((q 18), .inl (cI, 9, .inl kk)), ((q 19), .inl (cI, 9, .inl bk)), ((q 20), .inl (cI, 9, .inl tk))]) (zXw (zA [(h6, .inr (6, fM fl pn sl dr yn ra rp rs rd ry pk yk rg tc q)), ((q 5), .inl (cI, 9, .inl ko)), ((q 6), .inl (cI, 9, .inl bo)), ((q 7), .inl (cI, 9, .inl yo)), ((q 18), .inl (cI, 9, .inl kk)), ((q 19), .inl (cI, 9, .inl bk)), ((q 20), .inl (cI, 9, .inl tk))]) s.heap) 2 0 0 (MQ below (zQw D [(h6, .inr (6, fM fl pn sl dr yn ra rp rs rd ry ((F_X6_keepAll pn yn ko bo yo kk bk tk).1) ((F_X6_keepAll pn yn ko bo yo kk bk tk).2.1) rg tc q)), ((q 5), .inl (cI, 9, .inl ko)), ((q 6), .inl (cI, 9, .inl bo)), ((q 7), .inl (cI, 9, .inl yo)), ((q 18), .inl (cI, 9, .inl ((F_X6_keepAll pn yn ko bo yo kk bk tk).2.2.1))), ((q 19), .inl (cI, 9, .inl ((F_X6_keepAll pn yn ko bo yo kk bk tk).2.2.2.1))), ((q 20), .inl (cI, 9, .inl ((F_X6_keepAll pn yn ko bo yo kk bk tk).2.2.2.2)))] (zA [(h6, .inr (6, fM fl pn sl dr yn ra rp rs rd ry pk yk rg tc q)), ((q 5), .inl (cI, 9, .inl ko)), ((q 6), .inl (cI, 9, .inl bo)), ((q 7), .inl (cI, 9, .inl yo)), ((q 18), .inl (cI, 9, .inl kk)), ((q 19), .inl (cI, 9, .inl bk)), ((q 20), .inl (cI, 9, .inl tk))]) none) args s 0 0 (zA [(h6, .inr (6, fM fl pn sl dr yn ra rp rs rd ry pk yk rg tc q)), ((q 5), .inl (cI, 9, .inl ko)), ((q 6), .inl (cI, 9, .inl bo)), ((q 7), .inl (cI, 9, .inl yo)), ((q 18), .inl (cI, 9, .inl kk)), ((q 19), .inl (cI, 9, .inl bk)), ((q 20), .inl (cI, 9, .inl tk))])) 18 [(0, .ref h6), (1, .int x1_18)] [] [(h6, .inr (6, fM fl pn sl dr yn ra rp rs rd ry pn yn rg tc q)), ((q 5), .inl (cI, 9, .inl ko)), ((q 6), .inl (cI, 9, .inl bo)), ((q 7), .inl (cI, 9, .inl yo)), ((q 18), .inl (cI, 9, .inl kk_18)), ((q 19), .inl (cI, 9, .inl bk_18)), ((q 20), .inl (cI, 9, .inl tk_18))] := by
    intro d18
    induction d18 with
    | zero =>
      intro j x1_18 kk_18 bk_18 tk_18 e1 hj hd hf
      exfalso; omega
    | succ d18 ih18 =>
      intro j x1_18 kk_18 bk_18 tk_18 e1 hj hd hf
      rw [F_X6_keepAll_l18] at hf
      skip
      refine z_iload_n C dX6_keepAll_18 rfl 1 rfl ?_
      refine z_bipush (v := (9 : Int32)) C dX6_keepAll_19 (by decide) ?_
      refine z_icmp_ge (tgt := 66) C dX6_keepAll_21 (by decide) (fun c21 => ?_) (fun c21 => ?_)
      · rw [if_pos c21] at hf
        exact X18 x1_18 kk_18 bk_18 tk_18  hf
      · rw [if_neg c21] at hf
        refine z_aload_n C dX6_keepAll_24 rfl 0 rfl ?_
        refine z_get (T := TX6) (v := .ref (q 18)) C i_X6_keepAll_6 0 rfl rfl 18 (by decide) m_X6_keepAll_5 rfl rfl dX6_keepAll_25 ?_
        refine z_iload_n C dX6_keepAll_28 rfl 1 rfl ?_
        refine z_aload_n C dX6_keepAll_29 rfl 0 rfl ?_
        refine z_get (T := TX6) (v := .ref (q 5)) C i_X6_keepAll_6 0 rfl rfl 5 (by decide) m_X6_keepAll_6 rfl rfl dX6_keepAll_30 ?_
        refine z_iload_n C dX6_keepAll_33 rfl 1 rfl ?_
        refine z_ald C 1 rfl (z_ixN e1 (z_jlt e1 (by omega) (by decide) c21) (by decide)) dX6_keepAll_34 ?_
        refine z_ast C [(h6, .inr (6, fM fl pn sl dr yn ra rp rs rd ry pn yn rg tc q)), ((q 5), .inl (cI, 9, .inl ko)), ((q 6), .inl (cI, 9, .inl bo)), ((q 7), .inl (cI, 9, .inl yo)), ((q 18), .inl (cI, 9, .inl (upd kk_18 x1_18.toNatClampNeg (ko x1_18.toNatClampNeg)))), ((q 19), .inl (cI, 9, .inl bk_18)), ((q 20), .inl (cI, 9, .inl tk_18))] 4 rfl (z_ixN e1 (z_jlt e1 (by omega) (by decide) c21) (by decide)) dX6_keepAll_35 rfl ?_
        refine z_aload_n C dX6_keepAll_36 rfl 0 rfl ?_
        refine z_get (T := TX6) (v := .ref (q 19)) C i_X6_keepAll_6 0 rfl rfl 19 (by decide) m_X6_keepAll_7 rfl rfl dX6_keepAll_37 ?_
        refine z_iload_n C dX6_keepAll_40 rfl 1 rfl ?_
        refine z_aload_n C dX6_keepAll_41 rfl 0 rfl ?_
        refine z_get (T := TX6) (v := .ref (q 6)) C i_X6_keepAll_6 0 rfl rfl 6 (by decide) m_X6_keepAll_8 rfl rfl dX6_keepAll_42 ?_
        refine z_iload_n C dX6_keepAll_45 rfl 1 rfl ?_
        refine z_ald C 2 rfl (z_ixN e1 (z_jlt e1 (by omega) (by decide) c21) (by decide)) dX6_keepAll_46 ?_
        refine z_ast C [(h6, .inr (6, fM fl pn sl dr yn ra rp rs rd ry pn yn rg tc q)), ((q 5), .inl (cI, 9, .inl ko)), ((q 6), .inl (cI, 9, .inl bo)), ((q 7), .inl (cI, 9, .inl yo)), ((q 18), .inl (cI, 9, .inl (upd kk_18 x1_18.toNatClampNeg (ko x1_18.toNatClampNeg)))), ((q 19), .inl (cI, 9, .inl (upd bk_18 x1_18.toNatClampNeg (bo x1_18.toNatClampNeg)))), ((q 20), .inl (cI, 9, .inl tk_18))] 5 rfl (z_ixN e1 (z_jlt e1 (by omega) (by decide) c21) (by decide)) dX6_keepAll_47 rfl ?_
        refine z_aload_n C dX6_keepAll_48 rfl 0 rfl ?_
        refine z_get (T := TX6) (v := .ref (q 20)) C i_X6_keepAll_6 0 rfl rfl 20 (by decide) m_X6_keepAll_9 rfl rfl dX6_keepAll_49 ?_
        refine z_iload_n C dX6_keepAll_52 rfl 1 rfl ?_
        refine z_aload_n C dX6_keepAll_53 rfl 0 rfl ?_
        refine z_get (T := TX6) (v := .ref (q 7)) C i_X6_keepAll_6 0 rfl rfl 7 (by decide) m_X6_keepAll_10 rfl rfl dX6_keepAll_54 ?_
        refine z_iload_n C dX6_keepAll_57 rfl 1 rfl ?_
        refine z_ald C 3 rfl (z_ixN e1 (z_jlt e1 (by omega) (by decide) c21) (by decide)) dX6_keepAll_58 ?_
        refine z_ast C [(h6, .inr (6, fM fl pn sl dr yn ra rp rs rd ry pn yn rg tc q)), ((q 5), .inl (cI, 9, .inl ko)), ((q 6), .inl (cI, 9, .inl bo)), ((q 7), .inl (cI, 9, .inl yo)), ((q 18), .inl (cI, 9, .inl (upd kk_18 x1_18.toNatClampNeg (ko x1_18.toNatClampNeg)))), ((q 19), .inl (cI, 9, .inl (upd bk_18 x1_18.toNatClampNeg (bo x1_18.toNatClampNeg)))), ((q 20), .inl (cI, 9, .inl (upd tk_18 x1_18.toNatClampNeg (yo x1_18.toNatClampNeg))))] 6 rfl (z_ixN e1 (z_jlt e1 (by omega) (by decide) c21) (by decide)) dX6_keepAll_59 rfl ?_
        refine z_iinc (v := (x1_18 + (1 : Int32))) C [(0, .ref h6), (1, .int (x1_18 + (1 : Int32)))] dX6_keepAll_60 1 rfl (by rfl) (by decide) [1, 0] rfl ?_
        refine z_goto (tgt := 18) C dX6_keepAll_63 (by decide) ?_
        exact ih18 (j + 1) (x1_18 + (1 : Int32)) (upd kk_18 x1_18.toNatClampNeg (ko x1_18.toNatClampNeg)) (upd bk_18 x1_18.toNatClampNeg (bo x1_18.toNatClampNeg)) (upd tk_18 x1_18.toNatClampNeg (yo x1_18.toNatClampNeg)) (by rw [e1]; exact nI_1 j) (by have := z_jlt (n := 9) e1 (by omega) (by decide) c21; omega) (by omega) hf
  exact L18 10 0 (0 : Int32) kk bk tk nI_0.symm (Nat.zero_le _) (by omega) hf
-- X6_bringBack
theorem i_X6_bringBack_6 : ∀ w ∈ u_ws RX6 TX6 30, w ∈ wsX6_bringBack := by decide +kernel
theorem m_X6_bringBack_1 : Cond.fieldLink RX6 162 "WishPinsModel" "pinsKept" "I" ∈ wsX6_bringBack := List.mem_of_getElem? (i := 1) rfl
theorem m_X6_bringBack_2 : Cond.fieldLink RX6 68 "WishPinsModel" "pins" "I" ∈ wsX6_bringBack := List.mem_of_getElem? (i := 2) rfl
theorem m_X6_bringBack_3 : Cond.fieldLink RX6 165 "WishPinsModel" "yearKept" "I" ∈ wsX6_bringBack := List.mem_of_getElem? (i := 3) rfl
theorem m_X6_bringBack_4 : Cond.fieldLink RX6 132 "WishPinsModel" "yearNow" "I" ∈ wsX6_bringBack := List.mem_of_getElem? (i := 4) rfl
theorem m_X6_bringBack_5 : Cond.fieldLink RX6 7 "WishPinsModel" "kindOf" "[I" ∈ wsX6_bringBack := List.mem_of_getElem? (i := 5) rfl
theorem m_X6_bringBack_6 : Cond.fieldLink RX6 28 "WishPinsModel" "kindKept" "[I" ∈ wsX6_bringBack := List.mem_of_getElem? (i := 6) rfl
theorem m_X6_bringBack_7 : Cond.fieldLink RX6 13 "WishPinsModel" "bendOf" "[I" ∈ wsX6_bringBack := List.mem_of_getElem? (i := 7) rfl
theorem m_X6_bringBack_8 : Cond.fieldLink RX6 31 "WishPinsModel" "bendKept" "[I" ∈ wsX6_bringBack := List.mem_of_getElem? (i := 8) rfl
theorem m_X6_bringBack_9 : Cond.fieldLink RX6 16 "WishPinsModel" "yearOf" "[I" ∈ wsX6_bringBack := List.mem_of_getElem? (i := 9) rfl
theorem m_X6_bringBack_10 : Cond.fieldLink RX6 34 "WishPinsModel" "thrownKept" "[I" ∈ wsX6_bringBack := List.mem_of_getElem? (i := 10) rfl
def F_X6_bringBack_k18 (pk : Int32) (yk : Int32) (x1_18 : Int32) (ko_18 : Nat → Int32) (bo_18 : Nat → Int32) (yo_18 : Nat → Int32) : Int32 × Int32 × (Nat → Int32) × (Nat → Int32) × (Nat → Int32) :=
  (pk, yk, ko_18, bo_18, yo_18)
def F_X6_bringBack_l18 (kk : Nat → Int32) (bk : Nat → Int32) (tk : Nat → Int32) (K_ : Int32 → (Nat → Int32) → (Nat → Int32) → (Nat → Int32) → Int32 × Int32 × (Nat → Int32) × (Nat → Int32) × (Nat → Int32)) : Nat → Int32 → (Nat → Int32) → (Nat → Int32) → (Nat → Int32) → Int32 × Int32 × (Nat → Int32) × (Nat → Int32) × (Nat → Int32)
  | 0, x1_18, ko_18, bo_18, yo_18 => K_ x1_18 ko_18 bo_18 yo_18
  | d18 + 1, x1_18, ko_18, bo_18, yo_18 => (if (9 : Int32) ≤ x1_18 then (K_ x1_18 ko_18 bo_18 yo_18) else (F_X6_bringBack_l18 kk bk tk K_ d18 (x1_18 + (1 : Int32)) (upd ko_18 x1_18.toNatClampNeg (kk x1_18.toNatClampNeg)) (upd bo_18 x1_18.toNatClampNeg (bk x1_18.toNatClampNeg)) (upd yo_18 x1_18.toNatClampNeg (tk x1_18.toNatClampNeg))))
def F_X6_bringBack (pk : Int32) (yk : Int32) (ko : Nat → Int32) (bo : Nat → Int32) (yo : Nat → Int32) (kk : Nat → Int32) (bk : Nat → Int32) (tk : Nat → Int32) : Int32 × Int32 × (Nat → Int32) × (Nat → Int32) × (Nat → Int32) :=
  (F_X6_bringBack_l18 kk bk tk (F_X6_bringBack_k18 pk yk) 10 (0 : Int32) ko bo yo)
set_option maxHeartbeats 4000000 in
set_option maxRecDepth 100000 in
theorem c_X6_bringBack (l : Launch) (D : va_G) (cI cO : ClassId) (h6 : Nat) (q : Nat → Nat) (fl : Int32) (pn : Int32) (sl : Int32) (dr : Int32) (yn : Int32) (ra : Int32) (rp : Int32) (rs : Int32) (rd : Int32) (ry : Int32) (pk : Int32) (yk : Int32) (rg : Int32) (tc : Int32) (ko : Nat → Int32) (bo : Nat → Int32) (yo : Nat → Int32) (kk : Nat → Int32) (bk : Nat → Int32) (tk : Nat → Int32) : zW l yX6_bringBack wsX6_bringBack ({ frames := 0, cells := 0, slots := 0, locals := 0 } : Room) D cI cO [.ref h6] [(h6, .inr (6, fM fl pn sl dr yn ra rp rs rd ry pk yk rg tc q)), ((q 5), .inl (cI, 9, .inl ko)), ((q 6), .inl (cI, 9, .inl bo)), ((q 7), .inl (cI, 9, .inl yo)), ((q 18), .inl (cI, 9, .inl kk)), ((q 19), .inl (cI, 9, .inl bk)), ((q 20), .inl (cI, 9, .inl tk))] [(h6, .inr (6, fM fl ((F_X6_bringBack pk yk ko bo yo kk bk tk).1) sl dr ((F_X6_bringBack pk yk ko bo yo kk bk tk).2.1) ra rp rs rd ry pk yk rg tc q)), ((q 5), .inl (cI, 9, .inl ((F_X6_bringBack pk yk ko bo yo kk bk tk).2.2.1))), ((q 6), .inl (cI, 9, .inl ((F_X6_bringBack pk yk ko bo yo kk bk tk).2.2.2.1))), ((q 7), .inl (cI, 9, .inl ((F_X6_bringBack pk yk ko bo yo kk bk tk).2.2.2.2))), ((q 18), .inl (cI, 9, .inl kk)), ((q 19), .inl (cI, 9, .inl bk)), ((q 20), .inl (cI, 9, .inl tk))] none := by
  refine zW_of (nL := 2) (cc := cX6_bringBack) (ret := none) (lv := [(0, .ref h6)]) (by decide +kernel) rfl (Nat.le_of_ble_eq_true rfl) rfl (fun p e s m args below meth c C hr hlk => ?_)
  have hf := F_X6_bringBack.eq_1 pk yk ko bo yo kk bk tk
  refine z_aload_n C dX6_bringBack_0 rfl 0 rfl ?_
  refine z_aload_n C dX6_bringBack_1 rfl 0 rfl ?_
  refine z_get (T := TX6) (v := .int pk) C i_X6_bringBack_6 0 rfl rfl 16 (by decide) m_X6_bringBack_1 rfl rfl dX6_bringBack_2 ?_
  refine z_put (T := TX6) (ty := .int) C [(h6, .inr (6, fM fl pk sl dr yn ra rp rs rd ry pk yk rg tc q)), ((q 5), .inl (cI, 9, .inl ko)), ((q 6), .inl (cI, 9, .inl bo)), ((q 7), .inl (cI, 9, .inl yo)), ((q 18), .inl (cI, 9, .inl kk)), ((q 19), .inl (cI, 9, .inl bk)), ((q 20), .inl (cI, 9, .inl tk))] i_X6_bringBack_6 tyX6 tyX6_ok nmX6 0 rfl rfl 1 (by decide) m_X6_bringBack_2 rfl rfl (by decide +kernel) rfl rfl (Nat.le_of_ble_eq_true rfl) dX6_bringBack_5 rfl ?_
  refine z_aload_n C dX6_bringBack_8 rfl 0 rfl ?_
  refine z_aload_n C dX6_bringBack_9 rfl 0 rfl ?_
  refine z_get (T := TX6) (v := .int yk) C i_X6_bringBack_6 0 rfl rfl 17 (by decide) m_X6_bringBack_3 rfl rfl dX6_bringBack_10 ?_
  refine z_put (T := TX6) (ty := .int) C [(h6, .inr (6, fM fl pk sl dr yk ra rp rs rd ry pk yk rg tc q)), ((q 5), .inl (cI, 9, .inl ko)), ((q 6), .inl (cI, 9, .inl bo)), ((q 7), .inl (cI, 9, .inl yo)), ((q 18), .inl (cI, 9, .inl kk)), ((q 19), .inl (cI, 9, .inl bk)), ((q 20), .inl (cI, 9, .inl tk))] i_X6_bringBack_6 tyX6 tyX6_ok nmX6 0 rfl rfl 4 (by decide) m_X6_bringBack_4 rfl rfl (by decide +kernel) rfl rfl (Nat.le_of_ble_eq_true rfl) dX6_bringBack_13 rfl ?_
  refine z_iconst (v := (0 : Int32)) C dX6_bringBack_16 (by decide) ?_
  refine z_istore_n C [(0, .ref h6), (1, .int (0 : Int32))] dX6_bringBack_17 rfl (by decide) [1, 0] rfl ?_
  have X18 : ∀ (x1_18 : Int32) (ko_18 : Nat → Int32) (bo_18 : Nat → Int32) (yo_18 : Nat → Int32), F_X6_bringBack pk yk ko bo yo kk bk tk = (F_X6_bringBack_k18 pk yk) x1_18 ko_18 bo_18 yo_18 → zG p l e ({ frames := 0, cells := 0, slots := 0, locals := 0 } : Room) s m args below meth c D (zA [(h6, .inr (6, fM fl pn sl dr yn ra rp rs rd ry pk yk rg tc q)), ((q 5), .inl (cI, 9, .inl ko)), ((q 6), .inl (cI, 9, .inl bo)), ((q 7), .inl (cI, 9, .inl yo)), ((q 18), .inl (cI, 9, .inl kk)), ((q 19), .inl (cI, 9, .inl bk)), ((q 20), .inl (cI, 9, .inl tk))]) (zXw (zA [(h6, .inr (6, fM fl pn sl dr yn ra rp rs rd ry pk yk rg tc q)), ((q 5), .inl (cI, 9, .inl ko)), ((q 6), .inl (cI, 9, .inl bo)), ((q 7), .inl (cI, 9, .inl yo)), ((q 18), .inl (cI, 9, .inl kk)), ((q 19), .inl (cI, 9, .inl bk)), ((q 20), .inl (cI, 9, .inl tk))]) s.heap) 2 0 0 (MQ below (zQw D [(h6, .inr (6, fM fl ((F_X6_bringBack pk yk ko bo yo kk bk tk).1) sl dr ((F_X6_bringBack pk yk ko bo yo kk bk tk).2.1) ra rp rs rd ry pk yk rg tc q)), ((q 5), .inl (cI, 9, .inl ((F_X6_bringBack pk yk ko bo yo kk bk tk).2.2.1))), ((q 6), .inl (cI, 9, .inl ((F_X6_bringBack pk yk ko bo yo kk bk tk).2.2.2.1))), ((q 7), .inl (cI, 9, .inl ((F_X6_bringBack pk yk ko bo yo kk bk tk).2.2.2.2))), ((q 18), .inl (cI, 9, .inl kk)), ((q 19), .inl (cI, 9, .inl bk)), ((q 20), .inl (cI, 9, .inl tk))] (zA [(h6, .inr (6, fM fl pn sl dr yn ra rp rs rd ry pk yk rg tc q)), ((q 5), .inl (cI, 9, .inl ko)), ((q 6), .inl (cI, 9, .inl bo)), ((q 7), .inl (cI, 9, .inl yo)), ((q 18), .inl (cI, 9, .inl kk)), ((q 19), .inl (cI, 9, .inl bk)), ((q 20), .inl (cI, 9, .inl tk))]) none) args s 0 0 (zA [(h6, .inr (6, fM fl pn sl dr yn ra rp rs rd ry pk yk rg tc q)), ((q 5), .inl (cI, 9, .inl ko)), ((q 6), .inl (cI, 9, .inl bo)), ((q 7), .inl (cI, 9, .inl yo)), ((q 18), .inl (cI, 9, .inl kk)), ((q 19), .inl (cI, 9, .inl bk)), ((q 20), .inl (cI, 9, .inl tk))])) 66 [(0, .ref h6), (1, .int x1_18)] [] [(h6, .inr (6, fM fl pk sl dr yk ra rp rs rd ry pk yk rg tc q)), ((q 5), .inl (cI, 9, .inl ko_18)), ((q 6), .inl (cI, 9, .inl bo_18)), ((q 7), .inl (cI, 9, .inl yo_18)), ((q 18), .inl (cI, 9, .inl kk)), ((q 19), .inl (cI, 9, .inl bk)), ((q 20), .inl (cI, 9, .inl tk))] := by
    intro x1_18 ko_18 bo_18 yo_18 hf
    rw [F_X6_bringBack_k18] at hf
    skip
    exact z_vretW C hr hlk (by rw [hf]) dX6_bringBack_66
  have L18 : ∀ (d18 : Nat) (j : Nat) (x1_18 : Int32) (ko_18 : Nat → Int32) (bo_18 : Nat → Int32) (yo_18 : Nat → Int32) (e1 : x1_18 = nI j) (hj : j ≤ 9) (hd : 9 < j + d18), F_X6_bringBack pk yk ko bo yo kk bk tk = F_X6_bringBack_l18 kk bk tk (F_X6_bringBack_k18 pk yk) d18 x1_18 ko_18 bo_18 yo_18 → zG p l e ({ frames := 0, cells := 0, slots := 0, locals := 0 } : Room) s m args below meth c D (zA [(h6, .inr (6, fM fl pn sl dr yn ra rp rs rd ry pk yk rg tc q)), ((q 5), .inl (cI, 9, .inl ko)), ((q 6), .inl (cI, 9, .inl bo)), ((q 7), .inl (cI, 9, .inl yo)), ((q 18), .inl (cI, 9, .inl kk)), ((q 19), .inl (cI, 9, .inl bk)), ((q 20), .inl (cI, 9, .inl tk))]) (zXw (zA [(h6, .inr (6, fM fl pn sl dr yn ra rp rs rd ry pk yk rg tc q)), ((q 5), .inl (cI, 9, .inl ko)), ((q 6), .inl (cI, 9, .inl bo)), ((q 7), .inl (cI, 9, .inl yo)), ((q 18), .inl (cI, 9, .inl kk)), ((q 19), .inl (cI, 9, .inl bk)), ((q 20), .inl (cI, 9, .inl tk))]) s.heap) 2 0 0 (MQ below (zQw D [(h6, .inr (6, fM fl ((F_X6_bringBack pk yk ko bo yo kk bk tk).1) sl dr ((F_X6_bringBack pk yk ko bo yo kk bk tk).2.1) ra rp rs rd ry pk yk rg tc q)), ((q 5), .inl (cI, 9, .inl ((F_X6_bringBack pk yk ko bo yo kk bk tk).2.2.1))), ((q 6), .inl (cI, 9, .inl ((F_X6_bringBack pk yk ko bo yo kk bk tk).2.2.2.1))), ((q 7), .inl (cI, 9, .inl ((F_X6_bringBack pk yk ko bo yo kk bk tk).2.2.2.2))), ((q 18), .inl (cI, 9, .inl kk)), ((q 19), .inl (cI, 9, .inl bk)), ((q 20), .inl (cI, 9, .inl tk))] (zA [(h6, .inr (6, fM fl pn sl dr yn ra rp rs rd ry pk yk rg tc q)), ((q 5), .inl (cI, 9, .inl ko)), ((q 6), .inl (cI, 9, .inl bo)), ((q 7), .inl (cI, 9, .inl yo)), ((q 18), .inl (cI, 9, .inl kk)), ((q 19), .inl (cI, 9, .inl bk)), ((q 20), .inl (cI, 9, .inl tk))]) none) args s 0 0 (zA [(h6, .inr (6, fM fl pn sl dr yn ra rp rs rd ry pk yk rg tc q)), ((q 5), .inl (cI, 9, .inl ko)), ((q 6), .inl (cI, 9, .inl bo)), ((q 7), .inl (cI, 9, .inl yo)), ((q 18), .inl (cI, 9, .inl kk)), ((q 19), .inl (cI, 9, .inl bk)), ((q 20), .inl (cI, 9, .inl tk))])) 18 [(0, .ref h6), (1, .int x1_18)] [] [(h6, .inr (6, fM fl pk sl dr yk ra rp rs rd ry pk yk rg tc q)), ((q 5), .inl (cI, 9, .inl ko_18)), ((q 6), .inl (cI, 9, .inl bo_18)), ((q 7), .inl (cI, 9, .inl yo_18)), ((q 18), .inl (cI, 9, .inl kk)), ((q 19), .inl (cI, 9, .inl bk)), ((q 20), .inl (cI, 9, .inl tk))] := by
    intro d18
    induction d18 with
    | zero =>
      intro j x1_18 ko_18 bo_18 yo_18 e1 hj hd hf
      exfalso; omega
    | succ d18 ih18 =>
      intro j x1_18 ko_18 bo_18 yo_18 e1 hj hd hf
      rw [F_X6_bringBack_l18] at hf
      skip
      refine z_iload_n C dX6_bringBack_18 rfl 1 rfl ?_
      refine z_bipush (v := (9 : Int32)) C dX6_bringBack_19 (by decide) ?_
      refine z_icmp_ge (tgt := 66) C dX6_bringBack_21 (by decide) (fun c21 => ?_) (fun c21 => ?_)
      · rw [if_pos c21] at hf
        exact X18 x1_18 ko_18 bo_18 yo_18  hf
      · rw [if_neg c21] at hf
        refine z_aload_n C dX6_bringBack_24 rfl 0 rfl ?_
        refine z_get (T := TX6) (v := .ref (q 5)) C i_X6_bringBack_6 0 rfl rfl 5 (by decide) m_X6_bringBack_5 rfl rfl dX6_bringBack_25 ?_
        refine z_iload_n C dX6_bringBack_28 rfl 1 rfl ?_
        refine z_aload_n C dX6_bringBack_29 rfl 0 rfl ?_
        refine z_get (T := TX6) (v := .ref (q 18)) C i_X6_bringBack_6 0 rfl rfl 18 (by decide) m_X6_bringBack_6 rfl rfl dX6_bringBack_30 ?_
        refine z_iload_n C dX6_bringBack_33 rfl 1 rfl ?_
        refine z_ald C 4 rfl (z_ixN e1 (z_jlt e1 (by omega) (by decide) c21) (by decide)) dX6_bringBack_34 ?_
        refine z_ast C [(h6, .inr (6, fM fl pk sl dr yk ra rp rs rd ry pk yk rg tc q)), ((q 5), .inl (cI, 9, .inl (upd ko_18 x1_18.toNatClampNeg (kk x1_18.toNatClampNeg)))), ((q 6), .inl (cI, 9, .inl bo_18)), ((q 7), .inl (cI, 9, .inl yo_18)), ((q 18), .inl (cI, 9, .inl kk)), ((q 19), .inl (cI, 9, .inl bk)), ((q 20), .inl (cI, 9, .inl tk))] 1 rfl (z_ixN e1 (z_jlt e1 (by omega) (by decide) c21) (by decide)) dX6_bringBack_35 rfl ?_
        refine z_aload_n C dX6_bringBack_36 rfl 0 rfl ?_
        refine z_get (T := TX6) (v := .ref (q 6)) C i_X6_bringBack_6 0 rfl rfl 6 (by decide) m_X6_bringBack_7 rfl rfl dX6_bringBack_37 ?_
        refine z_iload_n C dX6_bringBack_40 rfl 1 rfl ?_
        refine z_aload_n C dX6_bringBack_41 rfl 0 rfl ?_
        refine z_get (T := TX6) (v := .ref (q 19)) C i_X6_bringBack_6 0 rfl rfl 19 (by decide) m_X6_bringBack_8 rfl rfl dX6_bringBack_42 ?_
        refine z_iload_n C dX6_bringBack_45 rfl 1 rfl ?_
        refine z_ald C 5 rfl (z_ixN e1 (z_jlt e1 (by omega) (by decide) c21) (by decide)) dX6_bringBack_46 ?_
        refine z_ast C [(h6, .inr (6, fM fl pk sl dr yk ra rp rs rd ry pk yk rg tc q)), ((q 5), .inl (cI, 9, .inl (upd ko_18 x1_18.toNatClampNeg (kk x1_18.toNatClampNeg)))), ((q 6), .inl (cI, 9, .inl (upd bo_18 x1_18.toNatClampNeg (bk x1_18.toNatClampNeg)))), ((q 7), .inl (cI, 9, .inl yo_18)), ((q 18), .inl (cI, 9, .inl kk)), ((q 19), .inl (cI, 9, .inl bk)), ((q 20), .inl (cI, 9, .inl tk))] 2 rfl (z_ixN e1 (z_jlt e1 (by omega) (by decide) c21) (by decide)) dX6_bringBack_47 rfl ?_
        refine z_aload_n C dX6_bringBack_48 rfl 0 rfl ?_
        refine z_get (T := TX6) (v := .ref (q 7)) C i_X6_bringBack_6 0 rfl rfl 7 (by decide) m_X6_bringBack_9 rfl rfl dX6_bringBack_49 ?_
        refine z_iload_n C dX6_bringBack_52 rfl 1 rfl ?_
        refine z_aload_n C dX6_bringBack_53 rfl 0 rfl ?_
        refine z_get (T := TX6) (v := .ref (q 20)) C i_X6_bringBack_6 0 rfl rfl 20 (by decide) m_X6_bringBack_10 rfl rfl dX6_bringBack_54 ?_
        refine z_iload_n C dX6_bringBack_57 rfl 1 rfl ?_
        refine z_ald C 6 rfl (z_ixN e1 (z_jlt e1 (by omega) (by decide) c21) (by decide)) dX6_bringBack_58 ?_
        refine z_ast C [(h6, .inr (6, fM fl pk sl dr yk ra rp rs rd ry pk yk rg tc q)), ((q 5), .inl (cI, 9, .inl (upd ko_18 x1_18.toNatClampNeg (kk x1_18.toNatClampNeg)))), ((q 6), .inl (cI, 9, .inl (upd bo_18 x1_18.toNatClampNeg (bk x1_18.toNatClampNeg)))), ((q 7), .inl (cI, 9, .inl (upd yo_18 x1_18.toNatClampNeg (tk x1_18.toNatClampNeg)))), ((q 18), .inl (cI, 9, .inl kk)), ((q 19), .inl (cI, 9, .inl bk)), ((q 20), .inl (cI, 9, .inl tk))] 3 rfl (z_ixN e1 (z_jlt e1 (by omega) (by decide) c21) (by decide)) dX6_bringBack_59 rfl ?_
        refine z_iinc (v := (x1_18 + (1 : Int32))) C [(0, .ref h6), (1, .int (x1_18 + (1 : Int32)))] dX6_bringBack_60 1 rfl (by rfl) (by decide) [1, 0] rfl ?_
        refine z_goto (tgt := 18) C dX6_bringBack_63 (by decide) ?_
        exact ih18 (j + 1) (x1_18 + (1 : Int32)) (upd ko_18 x1_18.toNatClampNeg (kk x1_18.toNatClampNeg)) (upd bo_18 x1_18.toNatClampNeg (bk x1_18.toNatClampNeg)) (upd yo_18 x1_18.toNatClampNeg (tk x1_18.toNatClampNeg)) (by rw [e1]; exact nI_1 j) (by have := z_jlt (n := 9) e1 (by omega) (by decide) c21; omega) (by omega) hf
  exact L18 10 0 (0 : Int32) ko bo yo nI_0.symm (Nat.zero_le _) (by omega) hf
-- X6_quiet
theorem i_X6_quiet_6 : ∀ w ∈ u_ws RX6 TX6 30, w ∈ wsX6_quiet := by decide +kernel
theorem m_X6_quiet_1 : Cond.fieldLink RX6 68 "WishPinsModel" "pins" "I" ∈ wsX6_quiet := List.mem_of_getElem? (i := 1) rfl
theorem m_X6_quiet_3 : Cond.fieldLink RX6 16 "WishPinsModel" "yearOf" "[I" ∈ wsX6_quiet := List.mem_of_getElem? (i := 3) rfl
theorem m_X6_quiet_2 : Cond.fieldLink RX6 132 "WishPinsModel" "yearNow" "I" ∈ wsX6_quiet := List.mem_of_getElem? (i := 2) rfl
def F_X6_quiet_k35 (w : Int32) (x2_35 : Int32) (x3_35 : Int32) (x4_35 : Int32) (x5_35 : Int32) : Int32 :=
  (if w = 0 then x2_35 else x3_35)
def F_X6_quiet_l35 (pn : Int32) (yn : Int32) (yo : Nat → Int32) (K_ : Int32 → Int32 → Int32 → Int32 → Int32) : Nat → Int32 → Int32 → Int32 → Int32 → Int32
  | 0, x2_35, x3_35, x4_35, x5_35 => K_ x2_35 x3_35 x4_35 x5_35
  | d35 + 1, x2_35, x3_35, x4_35, x5_35 => (if pn < x5_35 then (K_ x2_35 x3_35 x4_35 x5_35) else (if x5_35 = pn then (if (yn - x4_35) ≤ x2_35 then (F_X6_quiet_l35 pn yn yo K_ d35 x2_35 x3_35 yn (x5_35 + (1 : Int32))) else (F_X6_quiet_l35 pn yn yo K_ d35 (yn - x4_35) x4_35 yn (x5_35 + (1 : Int32)))) else (if ((yo x5_35.toNatClampNeg) - x4_35) ≤ x2_35 then (F_X6_quiet_l35 pn yn yo K_ d35 x2_35 x3_35 (yo x5_35.toNatClampNeg) (x5_35 + (1 : Int32))) else (F_X6_quiet_l35 pn yn yo K_ d35 ((yo x5_35.toNatClampNeg) - x4_35) x4_35 (yo x5_35.toNatClampNeg) (x5_35 + (1 : Int32))))))
def F_X6_quiet (pn : Int32) (yn : Int32) (yo : Nat → Int32) (w : Int32) : Int32 :=
  (if pn = 0 then (-3 : Int32) else (if (F_X6_in w.toInt64 (0 : Int64) (1 : Int64)) = 0 then (-2 : Int32) else (F_X6_quiet_l35 pn yn yo (F_X6_quiet_k35 w) 11 (-9 : Int32) (-9 : Int32) (0 : Int32) (0 : Int32))))
set_option maxHeartbeats 4000000 in
set_option maxRecDepth 100000 in
theorem c_X6_quiet (l : Launch) (D : va_G) (cI cO : ClassId) (h6 : Nat) (q : Nat → Nat) (fl : Int32) (pn : Int32) (sl : Int32) (dr : Int32) (yn : Int32) (ra : Int32) (rp : Int32) (rs : Int32) (rd : Int32) (ry : Int32) (pk : Int32) (yk : Int32) (rg : Int32) (tc : Int32) (yo : Nat → Int32) (w : Int32) (np : Nat) (hpn : pn = nI np) (hnp : np ≤ 9) : zR l yX6_quiet wsX6_quiet ({ frames := 1, cells := 0, slots := 0, locals := 25 } : Room) D cI cO [.ref h6, .int w] [(h6, .inr (6, fM fl pn sl dr yn ra rp rs rd ry pk yk rg tc q)), ((q 7), .inl (cI, 9, .inl yo))] (some (.int (F_X6_quiet pn yn yo w))) := by
  refine zR_of (nL := 7) (cc := cX6_quiet) (ret := some .int) (lv := [(0, .ref h6), (1, .int w)]) (by decide +kernel) rfl (Nat.le_of_ble_eq_true rfl) rfl (fun p e s m args below meth c C hr hlk => ?_)
  have hf := F_X6_quiet.eq_1 pn yn yo w
  refine z_aload_n C dX6_quiet_0 rfl 0 rfl ?_
  refine z_get (T := TX6) (v := .int pn) C i_X6_quiet_6 0 rfl rfl 1 (by decide) m_X6_quiet_1 rfl rfl dX6_quiet_1 ?_
  refine z_if_ne (tgt := 10) C dX6_quiet_4 (by decide) (fun c4 => ?_) (fun c4 => ?_)
  · rw [if_neg c4] at hf
    refine z_iload_n C dX6_quiet_10 rfl 1 rfl ?_
    refine z_i2l C dX6_quiet_11 ?_
    refine z_lconst (v := (0 : Int64)) C dX6_quiet_12 (by decide) ?_
    refine z_lconst (v := (1 : Int64)) C dX6_quiet_13 (by decide) ?_
    refine z_cSR (As := [.long w.toInt64, .long (0 : Int64), .long (1 : Int64)]) C (c_X6_in l D cI cO w.toInt64 (0 : Int64) (1 : Int64)) (va_cwS 3 C.2.2.2.2.1 gX6_quiet_X6_in rfl rfl rfl hdS_X6_in ⟨Nat.le_of_ble_eq_true rfl, Nat.le_of_ble_eq_true rfl⟩) [] rfl rfl rfl _ rfl (Nat.le_of_ble_eq_true rfl) ⟨Nat.zero_le _, Nat.zero_le _⟩ dX6_quiet_14 ?_
    generalize hu14 : (F_X6_in w.toInt64 (0 : Int64) (1 : Int64)) = u14 at hf ⊢
    refine z_if_ne (tgt := 23) C dX6_quiet_17 (by decide) (fun c17 => ?_) (fun c17 => ?_)
    · rw [if_neg c17] at hf
      have b17 := c17
      rw [← hu14] at c17
      refine z_bipush (v := (-9 : Int32)) C dX6_quiet_23 (by decide) ?_
      refine z_istore_n C [(0, .ref h6), (1, .int w), (2, .int (-9 : Int32))] dX6_quiet_25 rfl (by decide) [1, 2, 0] rfl ?_
      refine z_bipush (v := (-9 : Int32)) C dX6_quiet_26 (by decide) ?_
      refine z_istore_n C [(0, .ref h6), (1, .int w), (2, .int (-9 : Int32)), (3, .int (-9 : Int32))] dX6_quiet_28 rfl (by decide) [1, 2, 3, 0] rfl ?_
      refine z_iconst (v := (0 : Int32)) C dX6_quiet_29 (by decide) ?_
      refine z_istore C [(0, .ref h6), (1, .int w), (2, .int (-9 : Int32)), (3, .int (-9 : Int32)), (4, .int (0 : Int32))] dX6_quiet_30 (by decide) [1, 2, 3, 4, 0] rfl ?_
      refine z_iconst (v := (0 : Int32)) C dX6_quiet_32 (by decide) ?_
      refine z_istore C [(0, .ref h6), (1, .int w), (2, .int (-9 : Int32)), (3, .int (-9 : Int32)), (4, .int (0 : Int32)), (5, .int (0 : Int32))] dX6_quiet_33 (by decide) [1, 2, 3, 4, 5, 0] rfl ?_
      have X35 : ∀ (x2_35 : Int32) (x3_35 : Int32) (x4_35 : Int32) (x5_35 : Int32), F_X6_quiet pn yn yo w = (F_X6_quiet_k35 w) x2_35 x3_35 x4_35 x5_35 → zG p l e ({ frames := 1, cells := 0, slots := 0, locals := 25 } : Room) s m args below meth c D (fun _ => True) (zXr s) 7 0 0 (MQ below (zQr (some (.int (F_X6_quiet pn yn yo w)))) args s 0 0 (fun _ => False)) 114 [(0, .ref h6), (1, .int w), (2, .int x2_35), (3, .int x3_35), (4, .int x4_35), (5, .int x5_35)] [] [(h6, .inr (6, fM fl pn sl dr yn ra rp rs rd ry pk yk rg tc q)), ((q 7), .inl (cI, 9, .inl yo))] := by
        intro x2_35 x3_35 x4_35 x5_35 hf
        rw [F_X6_quiet_k35] at hf
        skip
        refine z_iload_n C dX6_quiet_114 rfl 1 rfl ?_
        refine z_if_ne (tgt := 122) C dX6_quiet_115 (by decide) (fun c115 => ?_) (fun c115 => ?_)
        · rw [if_neg c115] at hf
          refine z_iload_n C dX6_quiet_122 rfl 3 rfl ?_
          exact z_iretR C hr hlk (by rw [hf]) dX6_quiet_123
        · rw [if_pos c115] at hf
          refine z_iload_n C dX6_quiet_118 rfl 2 rfl ?_
          refine z_goto (tgt := 123) C dX6_quiet_119 (by decide) ?_
          exact z_iretR C hr hlk (by rw [hf]) dX6_quiet_123
      have L35 : ∀ (d35 : Nat) (j : Nat) (x2_35 : Int32) (x3_35 : Int32) (x4_35 : Int32) (x5_35 : Int32) (e5 : x5_35 = nI j) (hj : j ≤ (np + 1)) (hd : (np + 1) < j + d35), F_X6_quiet pn yn yo w = F_X6_quiet_l35 pn yn yo (F_X6_quiet_k35 w) d35 x2_35 x3_35 x4_35 x5_35 → zG p l e ({ frames := 1, cells := 0, slots := 0, locals := 25 } : Room) s m args below meth c D (fun _ => True) (zXr s) 7 0 0 (MQ below (zQr (some (.int (F_X6_quiet pn yn yo w)))) args s 0 0 (fun _ => False)) 35 [(0, .ref h6), (1, .int w), (2, .int x2_35), (3, .int x3_35), (4, .int x4_35), (5, .int x5_35)] [] [(h6, .inr (6, fM fl pn sl dr yn ra rp rs rd ry pk yk rg tc q)), ((q 7), .inl (cI, 9, .inl yo))] := by
        intro d35
        induction d35 with
        | zero =>
          intro j x2_35 x3_35 x4_35 x5_35 e5 hj hd hf
          exfalso; omega
        | succ d35 ih35 =>
          intro j x2_35 x3_35 x4_35 x5_35 e5 hj hd hf
          rw [F_X6_quiet_l35] at hf
          skip
          refine z_iload C dX6_quiet_35 5 rfl ?_
          refine z_aload_n C dX6_quiet_37 rfl 0 rfl ?_
          refine z_get (T := TX6) (v := .int pn) C i_X6_quiet_6 0 rfl rfl 1 (by decide) m_X6_quiet_1 rfl rfl dX6_quiet_38 ?_
          refine z_icmp_gt (tgt := 114) C dX6_quiet_41 (by decide) (fun c41 => ?_) (fun c41 => ?_)
          · rw [if_pos c41] at hf
            exact X35 x2_35 x3_35 x4_35 x5_35  hf
          · rw [if_neg c41] at hf
            refine z_iload C dX6_quiet_44 5 rfl ?_
            refine z_aload_n C dX6_quiet_46 rfl 0 rfl ?_
            refine z_get (T := TX6) (v := .int pn) C i_X6_quiet_6 0 rfl rfl 1 (by decide) m_X6_quiet_1 rfl rfl dX6_quiet_47 ?_
            refine z_icmp_ne (tgt := 60) C dX6_quiet_50 (by decide) (fun c50 => ?_) (fun c50 => ?_)
            · rw [if_neg c50] at hf
              refine z_aload_n C dX6_quiet_60 rfl 0 rfl ?_
              refine z_get (T := TX6) (v := .ref (q 7)) C i_X6_quiet_6 0 rfl rfl 7 (by decide) m_X6_quiet_3 rfl rfl dX6_quiet_61 ?_
              refine z_iload C dX6_quiet_64 5 rfl ?_
              refine z_ald C 1 rfl (by subst hu14; exact (z_ix9 e5 (by have := z_jle e5 (by omega) (z_tiN hpn (by omega)) c41; have := z_ltne e5 hpn this c50; omega))) dX6_quiet_66 ?_
              refine z_istore C [(0, .ref h6), (1, .int w), (2, .int x2_35), (3, .int x3_35), (4, .int x4_35), (5, .int x5_35), (6, .int (yo x5_35.toNatClampNeg))] dX6_quiet_67 (by decide) [1, 2, 3, 4, 5, 6, 0] rfl ?_
              refine z_iload C dX6_quiet_69 6 rfl ?_
              refine z_iload C dX6_quiet_71 4 rfl ?_
              refine z_isub C dX6_quiet_73 ?_
              refine z_iload_n C dX6_quiet_74 rfl 2 rfl ?_
              refine z_icmp_le (tgt := 83) C dX6_quiet_75 (by decide) (fun c75 => ?_) (fun c75 => ?_)
              · rw [if_pos c75] at hf
                refine z_iload_n C dX6_quiet_83 rfl 3 rfl ?_
                refine z_istore_n C [(0, .ref h6), (1, .int w), (2, .int x2_35), (3, .int x3_35), (4, .int x4_35), (5, .int x5_35), (6, .int (yo x5_35.toNatClampNeg))] dX6_quiet_84 rfl (by decide) [1, 2, 3, 0, 4, 5, 6] rfl ?_
                refine z_iload C dX6_quiet_85 6 rfl ?_
                refine z_iload C dX6_quiet_87 4 rfl ?_
                refine z_isub C dX6_quiet_89 ?_
                refine z_iload_n C dX6_quiet_90 rfl 2 rfl ?_
                refine z_icmp_le (tgt := 102) C dX6_quiet_91 (by decide) (fun _ => ?_) (fun h9 => absurd c75 h9)
                refine z_iload_n C dX6_quiet_102 rfl 2 rfl ?_
                refine z_istore_n C [(0, .ref h6), (1, .int w), (2, .int x2_35), (3, .int x3_35), (4, .int x4_35), (5, .int x5_35), (6, .int (yo x5_35.toNatClampNeg))] dX6_quiet_103 rfl (by decide) [1, 2, 0, 3, 4, 5, 6] rfl ?_
                refine z_iload C dX6_quiet_104 6 rfl ?_
                refine z_istore C [(0, .ref h6), (1, .int w), (2, .int x2_35), (3, .int x3_35), (4, .int (yo x5_35.toNatClampNeg)), (5, .int x5_35), (6, .int (yo x5_35.toNatClampNeg))] dX6_quiet_106 (by decide) [1, 2, 3, 4, 0, 5, 6] rfl ?_
                refine z_iinc (v := (x5_35 + (1 : Int32))) C [(0, .ref h6), (1, .int w), (2, .int x2_35), (3, .int x3_35), (4, .int (yo x5_35.toNatClampNeg)), (5, .int (x5_35 + (1 : Int32))), (6, .int (yo x5_35.toNatClampNeg))] dX6_quiet_108 5 rfl (by rfl) (by decide) [1, 2, 3, 4, 5, 0, 6] rfl ?_
                refine z_goto (tgt := 35) C dX6_quiet_111 (by decide) ?_
                refine z_ls [(0, .ref h6), (1, .int w), (2, .int x2_35), (3, .int x3_35), (4, .int (yo x5_35.toNatClampNeg)), (5, .int (x5_35 + (1 : Int32)))] [0, 1, 2, 3, 4, 5] rfl ?_
                exact ih35 (j + 1) x2_35 x3_35 (yo x5_35.toNatClampNeg) (x5_35 + (1 : Int32)) (by subst hu14; exact (by rw [e5]; exact nI_1 j)) (by subst hu14; exact (by have := z_jle e5 (by omega) (z_tiN hpn (by omega)) c41; omega)) (by omega) hf
              · rw [if_neg c75] at hf
                refine z_iload C dX6_quiet_78 4 rfl ?_
                refine z_goto (tgt := 84) C dX6_quiet_80 (by decide) ?_
                refine z_istore_n C [(0, .ref h6), (1, .int w), (2, .int x2_35), (3, .int x4_35), (4, .int x4_35), (5, .int x5_35), (6, .int (yo x5_35.toNatClampNeg))] dX6_quiet_84 rfl (by decide) [1, 2, 3, 0, 4, 5, 6] rfl ?_
                refine z_iload C dX6_quiet_85 6 rfl ?_
                refine z_iload C dX6_quiet_87 4 rfl ?_
                refine z_isub C dX6_quiet_89 ?_
                refine z_iload_n C dX6_quiet_90 rfl 2 rfl ?_
                refine z_icmp_le (tgt := 102) C dX6_quiet_91 (by decide) (fun h9 => absurd h9 c75) (fun _ => ?_)
                refine z_iload C dX6_quiet_94 6 rfl ?_
                refine z_iload C dX6_quiet_96 4 rfl ?_
                refine z_isub C dX6_quiet_98 ?_
                refine z_goto (tgt := 103) C dX6_quiet_99 (by decide) ?_
                refine z_istore_n C [(0, .ref h6), (1, .int w), (2, .int ((yo x5_35.toNatClampNeg) - x4_35)), (3, .int x4_35), (4, .int x4_35), (5, .int x5_35), (6, .int (yo x5_35.toNatClampNeg))] dX6_quiet_103 rfl (by decide) [1, 2, 0, 3, 4, 5, 6] rfl ?_
                refine z_iload C dX6_quiet_104 6 rfl ?_
                refine z_istore C [(0, .ref h6), (1, .int w), (2, .int ((yo x5_35.toNatClampNeg) - x4_35)), (3, .int x4_35), (4, .int (yo x5_35.toNatClampNeg)), (5, .int x5_35), (6, .int (yo x5_35.toNatClampNeg))] dX6_quiet_106 (by decide) [1, 2, 3, 4, 0, 5, 6] rfl ?_
                refine z_iinc (v := (x5_35 + (1 : Int32))) C [(0, .ref h6), (1, .int w), (2, .int ((yo x5_35.toNatClampNeg) - x4_35)), (3, .int x4_35), (4, .int (yo x5_35.toNatClampNeg)), (5, .int (x5_35 + (1 : Int32))), (6, .int (yo x5_35.toNatClampNeg))] dX6_quiet_108 5 rfl (by rfl) (by decide) [1, 2, 3, 4, 5, 0, 6] rfl ?_
                refine z_goto (tgt := 35) C dX6_quiet_111 (by decide) ?_
                refine z_ls [(0, .ref h6), (1, .int w), (2, .int ((yo x5_35.toNatClampNeg) - x4_35)), (3, .int x4_35), (4, .int (yo x5_35.toNatClampNeg)), (5, .int (x5_35 + (1 : Int32)))] [0, 1, 2, 3, 4, 5] rfl ?_
                exact ih35 (j + 1) ((yo x5_35.toNatClampNeg) - x4_35) x4_35 (yo x5_35.toNatClampNeg) (x5_35 + (1 : Int32)) (by subst hu14; exact (by rw [e5]; exact nI_1 j)) (by subst hu14; exact (by have := z_jle e5 (by omega) (z_tiN hpn (by omega)) c41; omega)) (by omega) hf
            · rw [if_pos c50] at hf
              refine z_aload_n C dX6_quiet_53 rfl 0 rfl ?_
              refine z_get (T := TX6) (v := .int yn) C i_X6_quiet_6 0 rfl rfl 4 (by decide) m_X6_quiet_2 rfl rfl dX6_quiet_54 ?_
              refine z_goto (tgt := 67) C dX6_quiet_57 (by decide) ?_
              refine z_istore C [(0, .ref h6), (1, .int w), (2, .int x2_35), (3, .int x3_35), (4, .int x4_35), (5, .int x5_35), (6, .int yn)] dX6_quiet_67 (by decide) [1, 2, 3, 4, 5, 6, 0] rfl ?_
              refine z_iload C dX6_quiet_69 6 rfl ?_
              refine z_iload C dX6_quiet_71 4 rfl ?_
              refine z_isub C dX6_quiet_73 ?_
              refine z_iload_n C dX6_quiet_74 rfl 2 rfl ?_
              refine z_icmp_le (tgt := 83) C dX6_quiet_75 (by decide) (fun c75 => ?_) (fun c75 => ?_)
              · rw [if_pos c75] at hf
                refine z_iload_n C dX6_quiet_83 rfl 3 rfl ?_
                refine z_istore_n C [(0, .ref h6), (1, .int w), (2, .int x2_35), (3, .int x3_35), (4, .int x4_35), (5, .int x5_35), (6, .int yn)] dX6_quiet_84 rfl (by decide) [1, 2, 3, 0, 4, 5, 6] rfl ?_
                refine z_iload C dX6_quiet_85 6 rfl ?_
                refine z_iload C dX6_quiet_87 4 rfl ?_
                refine z_isub C dX6_quiet_89 ?_
                refine z_iload_n C dX6_quiet_90 rfl 2 rfl ?_
                refine z_icmp_le (tgt := 102) C dX6_quiet_91 (by decide) (fun _ => ?_) (fun h9 => absurd c75 h9)
                refine z_iload_n C dX6_quiet_102 rfl 2 rfl ?_
                refine z_istore_n C [(0, .ref h6), (1, .int w), (2, .int x2_35), (3, .int x3_35), (4, .int x4_35), (5, .int x5_35), (6, .int yn)] dX6_quiet_103 rfl (by decide) [1, 2, 0, 3, 4, 5, 6] rfl ?_
                refine z_iload C dX6_quiet_104 6 rfl ?_
                refine z_istore C [(0, .ref h6), (1, .int w), (2, .int x2_35), (3, .int x3_35), (4, .int yn), (5, .int x5_35), (6, .int yn)] dX6_quiet_106 (by decide) [1, 2, 3, 4, 0, 5, 6] rfl ?_
                refine z_iinc (v := (x5_35 + (1 : Int32))) C [(0, .ref h6), (1, .int w), (2, .int x2_35), (3, .int x3_35), (4, .int yn), (5, .int (x5_35 + (1 : Int32))), (6, .int yn)] dX6_quiet_108 5 rfl (by rfl) (by decide) [1, 2, 3, 4, 5, 0, 6] rfl ?_
                refine z_goto (tgt := 35) C dX6_quiet_111 (by decide) ?_
                refine z_ls [(0, .ref h6), (1, .int w), (2, .int x2_35), (3, .int x3_35), (4, .int yn), (5, .int (x5_35 + (1 : Int32)))] [0, 1, 2, 3, 4, 5] rfl ?_
                exact ih35 (j + 1) x2_35 x3_35 yn (x5_35 + (1 : Int32)) (by subst hu14; exact (by rw [e5]; exact nI_1 j)) (by subst hu14; exact (by have := z_jle e5 (by omega) (z_tiN hpn (by omega)) c41; omega)) (by omega) hf
              · rw [if_neg c75] at hf
                refine z_iload C dX6_quiet_78 4 rfl ?_
                refine z_goto (tgt := 84) C dX6_quiet_80 (by decide) ?_
                refine z_istore_n C [(0, .ref h6), (1, .int w), (2, .int x2_35), (3, .int x4_35), (4, .int x4_35), (5, .int x5_35), (6, .int yn)] dX6_quiet_84 rfl (by decide) [1, 2, 3, 0, 4, 5, 6] rfl ?_
                refine z_iload C dX6_quiet_85 6 rfl ?_
                refine z_iload C dX6_quiet_87 4 rfl ?_
                refine z_isub C dX6_quiet_89 ?_
                refine z_iload_n C dX6_quiet_90 rfl 2 rfl ?_
                refine z_icmp_le (tgt := 102) C dX6_quiet_91 (by decide) (fun h9 => absurd h9 c75) (fun _ => ?_)
                refine z_iload C dX6_quiet_94 6 rfl ?_
                refine z_iload C dX6_quiet_96 4 rfl ?_
                refine z_isub C dX6_quiet_98 ?_
                refine z_goto (tgt := 103) C dX6_quiet_99 (by decide) ?_
                refine z_istore_n C [(0, .ref h6), (1, .int w), (2, .int (yn - x4_35)), (3, .int x4_35), (4, .int x4_35), (5, .int x5_35), (6, .int yn)] dX6_quiet_103 rfl (by decide) [1, 2, 0, 3, 4, 5, 6] rfl ?_
                refine z_iload C dX6_quiet_104 6 rfl ?_
                refine z_istore C [(0, .ref h6), (1, .int w), (2, .int (yn - x4_35)), (3, .int x4_35), (4, .int yn), (5, .int x5_35), (6, .int yn)] dX6_quiet_106 (by decide) [1, 2, 3, 4, 0, 5, 6] rfl ?_
                refine z_iinc (v := (x5_35 + (1 : Int32))) C [(0, .ref h6), (1, .int w), (2, .int (yn - x4_35)), (3, .int x4_35), (4, .int yn), (5, .int (x5_35 + (1 : Int32))), (6, .int yn)] dX6_quiet_108 5 rfl (by rfl) (by decide) [1, 2, 3, 4, 5, 0, 6] rfl ?_
                refine z_goto (tgt := 35) C dX6_quiet_111 (by decide) ?_
                refine z_ls [(0, .ref h6), (1, .int w), (2, .int (yn - x4_35)), (3, .int x4_35), (4, .int yn), (5, .int (x5_35 + (1 : Int32)))] [0, 1, 2, 3, 4, 5] rfl ?_
                exact ih35 (j + 1) (yn - x4_35) x4_35 yn (x5_35 + (1 : Int32)) (by subst hu14; exact (by rw [e5]; exact nI_1 j)) (by subst hu14; exact (by have := z_jle e5 (by omega) (z_tiN hpn (by omega)) c41; omega)) (by omega) hf
      exact L35 11 0 (-9 : Int32) (-9 : Int32) (0 : Int32) (0 : Int32) (by subst hu14; exact nI_0.symm) (by subst hu14; exact (Nat.zero_le _)) (by omega) hf
    · rw [if_pos c17] at hf
      have b17 := c17
      rw [← hu14] at c17
      refine z_bipush (v := (-2 : Int32)) C dX6_quiet_20 (by decide) ?_
      exact z_iretR C hr hlk (by rw [hf]) dX6_quiet_22
  · rw [if_pos c4] at hf
    refine z_bipush (v := (-3 : Int32)) C dX6_quiet_7 (by decide) ?_
    exact z_iretR C hr hlk (by rw [hf]) dX6_quiet_9
-- X6_run
theorem i_X6_run_6 : ∀ w ∈ u_ws RX6 TX6 30, w ∈ wsX6_run := by decide +kernel
theorem m_X6_run_1 : Cond.fieldLink RX6 68 "WishPinsModel" "pins" "I" ∈ wsX6_run := List.mem_of_getElem? (i := 1) rfl
def F_X6_run_k34 (w : Int32) (x2_34 : Int32) (x3_34 : Int32) (x4_34 : Int32) (x5_34 : Int32) : Int32 :=
  (if w = 0 then x2_34 else x3_34)
def F_X6_run_l34 (pn : Int32) (sl : Int32) (dr : Int32) (ko : Nat → Int32) (bo : Nat → Int32) (yo : Nat → Int32) (K_ : Int32 → Int32 → Int32 → Int32 → Int32) : Nat → Int32 → Int32 → Int32 → Int32 → Int32
  | 0, x2_34, x3_34, x4_34, x5_34 => K_ x2_34 x3_34 x4_34 x5_34
  | d34 + 1, x2_34, x3_34, x4_34, x5_34 => (if pn ≤ x5_34 then (K_ x2_34 x3_34 x4_34 x5_34) else (if x5_34 ≤ 0 then (if ((x5_34 - x5_34) + (1 : Int32)) ≤ x2_34 then (F_X6_run_l34 pn sl dr ko bo yo K_ d34 x2_34 x3_34 x5_34 (x5_34 + (1 : Int32))) else (F_X6_run_l34 pn sl dr ko bo yo K_ d34 ((x5_34 - x5_34) + (1 : Int32)) x5_34 x5_34 (x5_34 + (1 : Int32)))) else (if (F_X6_wishOf sl dr ko bo yo x5_34) = (F_X6_wishOf sl dr ko bo yo (x5_34 - (1 : Int32))) then (if ((x5_34 - x4_34) + (1 : Int32)) ≤ x2_34 then (F_X6_run_l34 pn sl dr ko bo yo K_ d34 x2_34 x3_34 x4_34 (x5_34 + (1 : Int32))) else (F_X6_run_l34 pn sl dr ko bo yo K_ d34 ((x5_34 - x4_34) + (1 : Int32)) x4_34 x4_34 (x5_34 + (1 : Int32)))) else (if ((x5_34 - x5_34) + (1 : Int32)) ≤ x2_34 then (F_X6_run_l34 pn sl dr ko bo yo K_ d34 x2_34 x3_34 x5_34 (x5_34 + (1 : Int32))) else (F_X6_run_l34 pn sl dr ko bo yo K_ d34 ((x5_34 - x5_34) + (1 : Int32)) x5_34 x5_34 (x5_34 + (1 : Int32)))))))
def F_X6_run (pn : Int32) (sl : Int32) (dr : Int32) (ko : Nat → Int32) (bo : Nat → Int32) (yo : Nat → Int32) (w : Int32) : Int32 :=
  (if pn = 0 then (-3 : Int32) else (if (F_X6_in w.toInt64 (0 : Int64) (1 : Int64)) = 0 then (-2 : Int32) else (F_X6_run_l34 pn sl dr ko bo yo (F_X6_run_k34 w) 10 (0 : Int32) (-9 : Int32) (0 : Int32) (0 : Int32))))
set_option maxHeartbeats 4000000 in
set_option maxRecDepth 100000 in
theorem c_X6_run (l : Launch) (D : va_G) (cI cO : ClassId) (h6 : Nat) (q : Nat → Nat) (fl : Int32) (pn : Int32) (sl : Int32) (dr : Int32) (yn : Int32) (ra : Int32) (rp : Int32) (rs : Int32) (rd : Int32) (ry : Int32) (pk : Int32) (yk : Int32) (rg : Int32) (tc : Int32) (ko : Nat → Int32) (bo : Nat → Int32) (yo : Nat → Int32) (w : Int32) (np : Nat) (hpn : pn = nI np) (hnp : np ≤ 9) : zR l yX6_run wsX6_run ({ frames := 3, cells := 0, slots := 0, locals := 63 } : Room) D cI cO [.ref h6, .int w] [(h6, .inr (6, fM fl pn sl dr yn ra rp rs rd ry pk yk rg tc q)), ((q 5), .inl (cI, 9, .inl ko)), ((q 6), .inl (cI, 9, .inl bo)), ((q 7), .inl (cI, 9, .inl yo))] (some (.int (F_X6_run pn sl dr ko bo yo w))) := by
  refine zR_of (nL := 6) (cc := cX6_run) (ret := some .int) (lv := [(0, .ref h6), (1, .int w)]) (by decide +kernel) rfl (Nat.le_of_ble_eq_true rfl) rfl (fun p e s m args below meth c C hr hlk => ?_)
  have hf := F_X6_run.eq_1 pn sl dr ko bo yo w
  refine z_aload_n C dX6_run_0 rfl 0 rfl ?_
  refine z_get (T := TX6) (v := .int pn) C i_X6_run_6 0 rfl rfl 1 (by decide) m_X6_run_1 rfl rfl dX6_run_1 ?_
  refine z_if_ne (tgt := 10) C dX6_run_4 (by decide) (fun c4 => ?_) (fun c4 => ?_)
  · rw [if_neg c4] at hf
    refine z_iload_n C dX6_run_10 rfl 1 rfl ?_
    refine z_i2l C dX6_run_11 ?_
    refine z_lconst (v := (0 : Int64)) C dX6_run_12 (by decide) ?_
    refine z_lconst (v := (1 : Int64)) C dX6_run_13 (by decide) ?_
    refine z_cSR (As := [.long w.toInt64, .long (0 : Int64), .long (1 : Int64)]) C (c_X6_in l D cI cO w.toInt64 (0 : Int64) (1 : Int64)) (va_cwS 3 C.2.2.2.2.1 gX6_run_X6_in rfl rfl rfl hdS_X6_in ⟨Nat.le_of_ble_eq_true rfl, Nat.le_of_ble_eq_true rfl⟩) [] rfl rfl rfl _ rfl (Nat.le_of_ble_eq_true rfl) ⟨Nat.zero_le _, Nat.zero_le _⟩ dX6_run_14 ?_
    generalize hu14 : (F_X6_in w.toInt64 (0 : Int64) (1 : Int64)) = u14 at hf ⊢
    refine z_if_ne (tgt := 23) C dX6_run_17 (by decide) (fun c17 => ?_) (fun c17 => ?_)
    · rw [if_neg c17] at hf
      have b17 := c17
      rw [← hu14] at c17
      refine z_iconst (v := (0 : Int32)) C dX6_run_23 (by decide) ?_
      refine z_istore_n C [(0, .ref h6), (1, .int w), (2, .int (0 : Int32))] dX6_run_24 rfl (by decide) [1, 2, 0] rfl ?_
      refine z_bipush (v := (-9 : Int32)) C dX6_run_25 (by decide) ?_
      refine z_istore_n C [(0, .ref h6), (1, .int w), (2, .int (0 : Int32)), (3, .int (-9 : Int32))] dX6_run_27 rfl (by decide) [1, 2, 3, 0] rfl ?_
      refine z_iconst (v := (0 : Int32)) C dX6_run_28 (by decide) ?_
      refine z_istore C [(0, .ref h6), (1, .int w), (2, .int (0 : Int32)), (3, .int (-9 : Int32)), (4, .int (0 : Int32))] dX6_run_29 (by decide) [1, 2, 3, 4, 0] rfl ?_
      refine z_iconst (v := (0 : Int32)) C dX6_run_31 (by decide) ?_
      refine z_istore C [(0, .ref h6), (1, .int w), (2, .int (0 : Int32)), (3, .int (-9 : Int32)), (4, .int (0 : Int32)), (5, .int (0 : Int32))] dX6_run_32 (by decide) [1, 2, 3, 4, 5, 0] rfl ?_
      have X34 : ∀ (x2_34 : Int32) (x3_34 : Int32) (x4_34 : Int32) (x5_34 : Int32), F_X6_run pn sl dr ko bo yo w = (F_X6_run_k34 w) x2_34 x3_34 x4_34 x5_34 → zG p l e ({ frames := 3, cells := 0, slots := 0, locals := 63 } : Room) s m args below meth c D (fun _ => True) (zXr s) 6 0 0 (MQ below (zQr (some (.int (F_X6_run pn sl dr ko bo yo w)))) args s 0 0 (fun _ => False)) 121 [(0, .ref h6), (1, .int w), (2, .int x2_34), (3, .int x3_34), (4, .int x4_34), (5, .int x5_34)] [] [(h6, .inr (6, fM fl pn sl dr yn ra rp rs rd ry pk yk rg tc q)), ((q 5), .inl (cI, 9, .inl ko)), ((q 6), .inl (cI, 9, .inl bo)), ((q 7), .inl (cI, 9, .inl yo))] := by
        intro x2_34 x3_34 x4_34 x5_34 hf
        rw [F_X6_run_k34] at hf
        skip
        refine z_iload_n C dX6_run_121 rfl 1 rfl ?_
        refine z_if_ne (tgt := 129) C dX6_run_122 (by decide) (fun c122 => ?_) (fun c122 => ?_)
        · rw [if_neg c122] at hf
          refine z_iload_n C dX6_run_129 rfl 3 rfl ?_
          exact z_iretR C hr hlk (by rw [hf]) dX6_run_130
        · rw [if_pos c122] at hf
          refine z_iload_n C dX6_run_125 rfl 2 rfl ?_
          refine z_goto (tgt := 130) C dX6_run_126 (by decide) ?_
          exact z_iretR C hr hlk (by rw [hf]) dX6_run_130
      have L34 : ∀ (d34 : Nat) (j : Nat) (x2_34 : Int32) (x3_34 : Int32) (x4_34 : Int32) (x5_34 : Int32) (e5 : x5_34 = nI j) (hj : j ≤ np) (hd : np < j + d34), F_X6_run pn sl dr ko bo yo w = F_X6_run_l34 pn sl dr ko bo yo (F_X6_run_k34 w) d34 x2_34 x3_34 x4_34 x5_34 → zG p l e ({ frames := 3, cells := 0, slots := 0, locals := 63 } : Room) s m args below meth c D (fun _ => True) (zXr s) 6 0 0 (MQ below (zQr (some (.int (F_X6_run pn sl dr ko bo yo w)))) args s 0 0 (fun _ => False)) 34 [(0, .ref h6), (1, .int w), (2, .int x2_34), (3, .int x3_34), (4, .int x4_34), (5, .int x5_34)] [] [(h6, .inr (6, fM fl pn sl dr yn ra rp rs rd ry pk yk rg tc q)), ((q 5), .inl (cI, 9, .inl ko)), ((q 6), .inl (cI, 9, .inl bo)), ((q 7), .inl (cI, 9, .inl yo))] := by
        intro d34
        induction d34 with
        | zero =>
          intro j x2_34 x3_34 x4_34 x5_34 e5 hj hd hf
          exfalso; omega
        | succ d34 ih34 =>
          intro j x2_34 x3_34 x4_34 x5_34 e5 hj hd hf
          rw [F_X6_run_l34] at hf
          skip
          refine z_iload C dX6_run_34 5 rfl ?_
          refine z_aload_n C dX6_run_36 rfl 0 rfl ?_
          refine z_get (T := TX6) (v := .int pn) C i_X6_run_6 0 rfl rfl 1 (by decide) m_X6_run_1 rfl rfl dX6_run_37 ?_
          refine z_icmp_ge (tgt := 121) C dX6_run_40 (by decide) (fun c40 => ?_) (fun c40 => ?_)
          · rw [if_pos c40] at hf
            exact X34 x2_34 x3_34 x4_34 x5_34  hf
          · rw [if_neg c40] at hf
            refine z_iload C dX6_run_43 5 rfl ?_
            refine z_if_le (tgt := 70) C dX6_run_45 (by decide) (fun c45 => ?_) (fun c45 => ?_)
            · rw [if_pos c45] at hf
              refine z_iload C dX6_run_70 5 rfl ?_
              refine z_istore C [(0, .ref h6), (1, .int w), (2, .int x2_34), (3, .int x3_34), (4, .int x5_34), (5, .int x5_34)] dX6_run_72 (by decide) [1, 2, 3, 4, 0, 5] rfl ?_
              refine z_iload C dX6_run_74 5 rfl ?_
              refine z_iload C dX6_run_76 4 rfl ?_
              refine z_isub C dX6_run_78 ?_
              refine z_iconst (v := (1 : Int32)) C dX6_run_79 (by decide) ?_
              refine z_iadd C dX6_run_80 ?_
              refine z_iload_n C dX6_run_81 rfl 2 rfl ?_
              refine z_icmp_le (tgt := 90) C dX6_run_82 (by decide) (fun c82 => ?_) (fun c82 => ?_)
              · rw [if_pos c82] at hf
                refine z_iload_n C dX6_run_90 rfl 3 rfl ?_
                refine z_istore_n C [(0, .ref h6), (1, .int w), (2, .int x2_34), (3, .int x3_34), (4, .int x5_34), (5, .int x5_34)] dX6_run_91 rfl (by decide) [1, 2, 3, 0, 4, 5] rfl ?_
                refine z_iload C dX6_run_92 5 rfl ?_
                refine z_iload C dX6_run_94 4 rfl ?_
                refine z_isub C dX6_run_96 ?_
                refine z_iconst (v := (1 : Int32)) C dX6_run_97 (by decide) ?_
                refine z_iadd C dX6_run_98 ?_
                refine z_iload_n C dX6_run_99 rfl 2 rfl ?_
                refine z_icmp_le (tgt := 113) C dX6_run_100 (by decide) (fun _ => ?_) (fun h9 => absurd c82 h9)
                refine z_iload_n C dX6_run_113 rfl 2 rfl ?_
                refine z_istore_n C [(0, .ref h6), (1, .int w), (2, .int x2_34), (3, .int x3_34), (4, .int x5_34), (5, .int x5_34)] dX6_run_114 rfl (by decide) [1, 2, 0, 3, 4, 5] rfl ?_
                refine z_iinc (v := (x5_34 + (1 : Int32))) C [(0, .ref h6), (1, .int w), (2, .int x2_34), (3, .int x3_34), (4, .int x5_34), (5, .int (x5_34 + (1 : Int32)))] dX6_run_115 5 rfl (by rfl) (by decide) [1, 2, 3, 4, 5, 0] rfl ?_
                refine z_goto (tgt := 34) C dX6_run_118 (by decide) ?_
                exact ih34 (j + 1) x2_34 x3_34 x5_34 (x5_34 + (1 : Int32)) (by subst hu14; exact (by rw [e5]; exact nI_1 j)) (by subst hu14; exact (by have := z_jlt e5 (by omega) (z_tiN hpn (by omega)) c40; omega)) (by omega) hf
              · rw [if_neg c82] at hf
                refine z_iload C dX6_run_85 4 rfl ?_
                refine z_goto (tgt := 91) C dX6_run_87 (by decide) ?_
                refine z_istore_n C [(0, .ref h6), (1, .int w), (2, .int x2_34), (3, .int x5_34), (4, .int x5_34), (5, .int x5_34)] dX6_run_91 rfl (by decide) [1, 2, 3, 0, 4, 5] rfl ?_
                refine z_iload C dX6_run_92 5 rfl ?_
                refine z_iload C dX6_run_94 4 rfl ?_
                refine z_isub C dX6_run_96 ?_
                refine z_iconst (v := (1 : Int32)) C dX6_run_97 (by decide) ?_
                refine z_iadd C dX6_run_98 ?_
                refine z_iload_n C dX6_run_99 rfl 2 rfl ?_
                refine z_icmp_le (tgt := 113) C dX6_run_100 (by decide) (fun h9 => absurd h9 c82) (fun _ => ?_)
                refine z_iload C dX6_run_103 5 rfl ?_
                refine z_iload C dX6_run_105 4 rfl ?_
                refine z_isub C dX6_run_107 ?_
                refine z_iconst (v := (1 : Int32)) C dX6_run_108 (by decide) ?_
                refine z_iadd C dX6_run_109 ?_
                refine z_goto (tgt := 114) C dX6_run_110 (by decide) ?_
                refine z_istore_n C [(0, .ref h6), (1, .int w), (2, .int ((x5_34 - x5_34) + (1 : Int32))), (3, .int x5_34), (4, .int x5_34), (5, .int x5_34)] dX6_run_114 rfl (by decide) [1, 2, 0, 3, 4, 5] rfl ?_
                refine z_iinc (v := (x5_34 + (1 : Int32))) C [(0, .ref h6), (1, .int w), (2, .int ((x5_34 - x5_34) + (1 : Int32))), (3, .int x5_34), (4, .int x5_34), (5, .int (x5_34 + (1 : Int32)))] dX6_run_115 5 rfl (by rfl) (by decide) [1, 2, 3, 4, 5, 0] rfl ?_
                refine z_goto (tgt := 34) C dX6_run_118 (by decide) ?_
                exact ih34 (j + 1) ((x5_34 - x5_34) + (1 : Int32)) x5_34 x5_34 (x5_34 + (1 : Int32)) (by subst hu14; exact (by rw [e5]; exact nI_1 j)) (by subst hu14; exact (by have := z_jlt e5 (by omega) (z_tiN hpn (by omega)) c40; omega)) (by omega) hf
            · rw [if_neg c45] at hf
              refine z_aload_n C dX6_run_48 rfl 0 rfl ?_
              refine z_iload C dX6_run_49 5 rfl ?_
              refine z_cVR (As := [.int x5_34]) C (c_X6_wishOf l D cI cO h6 q fl pn sl dr yn ra rp rs rd ry pk yk rg tc ko bo yo x5_34 (by subst hu14; exact (z_ix9 e5 (Nat.lt_of_lt_of_le (z_jlt e5 (by omega) (z_tiN hpn (by omega)) c40) hnp)))) (cwV 1 C.2.2.2.2.1 gX6_run_X6_wishOf rfl rfl rfl hdV_X6_wishOf ⟨Nat.le_of_ble_eq_true rfl, Nat.le_of_ble_eq_true rfl⟩) [0, 1, 2, 3] rfl rfl 0 rfl rfl rfl _ rfl (Nat.le_of_ble_eq_true rfl) ⟨Nat.zero_le _, Nat.zero_le _⟩ dX6_run_51 ?_
              generalize hu51 : (F_X6_wishOf sl dr ko bo yo x5_34) = u51 at hf ⊢
              refine z_aload_n C dX6_run_54 rfl 0 rfl ?_
              refine z_iload C dX6_run_55 5 rfl ?_
              refine z_iconst (v := (1 : Int32)) C dX6_run_57 (by decide) ?_
              refine z_isub C dX6_run_58 ?_
              refine z_cVR (As := [.int (x5_34 - (1 : Int32))]) C (c_X6_wishOf l D cI cO h6 q fl pn sl dr yn ra rp rs rd ry pk yk rg tc ko bo yo (x5_34 - (1 : Int32)) (by subst hu51 hu14; exact (z_ix9 (z_sub1 e5 (z_jnle (n := 0) e5 (by omega) (by decide) c45)) (by have := z_jlt e5 (by omega) (z_tiN hpn (by omega)) c40; omega)))) (cwV 1 C.2.2.2.2.1 gX6_run_X6_wishOf rfl rfl rfl hdV_X6_wishOf ⟨Nat.le_of_ble_eq_true rfl, Nat.le_of_ble_eq_true rfl⟩) [0, 1, 2, 3] rfl rfl 0 rfl rfl rfl _ rfl (Nat.le_of_ble_eq_true rfl) ⟨Nat.zero_le _, Nat.zero_le _⟩ dX6_run_59 ?_
              generalize hu59 : (F_X6_wishOf sl dr ko bo yo (x5_34 - (1 : Int32))) = u59 at hf ⊢
              refine z_icmp_ne (tgt := 70) C dX6_run_62 (by decide) (fun c62 => ?_) (fun c62 => ?_)
              · rw [if_neg c62] at hf
                have b62 := c62
                rw [← hu59, ← hu51] at c62
                refine z_iload C dX6_run_70 5 rfl ?_
                refine z_istore C [(0, .ref h6), (1, .int w), (2, .int x2_34), (3, .int x3_34), (4, .int x5_34), (5, .int x5_34)] dX6_run_72 (by decide) [1, 2, 3, 4, 0, 5] rfl ?_
                refine z_iload C dX6_run_74 5 rfl ?_
                refine z_iload C dX6_run_76 4 rfl ?_
                refine z_isub C dX6_run_78 ?_
                refine z_iconst (v := (1 : Int32)) C dX6_run_79 (by decide) ?_
                refine z_iadd C dX6_run_80 ?_
                refine z_iload_n C dX6_run_81 rfl 2 rfl ?_
                refine z_icmp_le (tgt := 90) C dX6_run_82 (by decide) (fun c82 => ?_) (fun c82 => ?_)
                · rw [if_pos c82] at hf
                  refine z_iload_n C dX6_run_90 rfl 3 rfl ?_
                  refine z_istore_n C [(0, .ref h6), (1, .int w), (2, .int x2_34), (3, .int x3_34), (4, .int x5_34), (5, .int x5_34)] dX6_run_91 rfl (by decide) [1, 2, 3, 0, 4, 5] rfl ?_
                  refine z_iload C dX6_run_92 5 rfl ?_
                  refine z_iload C dX6_run_94 4 rfl ?_
                  refine z_isub C dX6_run_96 ?_
                  refine z_iconst (v := (1 : Int32)) C dX6_run_97 (by decide) ?_
                  refine z_iadd C dX6_run_98 ?_
                  refine z_iload_n C dX6_run_99 rfl 2 rfl ?_
                  refine z_icmp_le (tgt := 113) C dX6_run_100 (by decide) (fun _ => ?_) (fun h9 => absurd c82 h9)
                  refine z_iload_n C dX6_run_113 rfl 2 rfl ?_
                  refine z_istore_n C [(0, .ref h6), (1, .int w), (2, .int x2_34), (3, .int x3_34), (4, .int x5_34), (5, .int x5_34)] dX6_run_114 rfl (by decide) [1, 2, 0, 3, 4, 5] rfl ?_
                  refine z_iinc (v := (x5_34 + (1 : Int32))) C [(0, .ref h6), (1, .int w), (2, .int x2_34), (3, .int x3_34), (4, .int x5_34), (5, .int (x5_34 + (1 : Int32)))] dX6_run_115 5 rfl (by rfl) (by decide) [1, 2, 3, 4, 5, 0] rfl ?_
                  refine z_goto (tgt := 34) C dX6_run_118 (by decide) ?_
                  exact ih34 (j + 1) x2_34 x3_34 x5_34 (x5_34 + (1 : Int32)) (by subst hu59 hu51 hu14; exact (by rw [e5]; exact nI_1 j)) (by subst hu59 hu51 hu14; exact (by have := z_jlt e5 (by omega) (z_tiN hpn (by omega)) c40; omega)) (by omega) hf
                · rw [if_neg c82] at hf
                  refine z_iload C dX6_run_85 4 rfl ?_
                  refine z_goto (tgt := 91) C dX6_run_87 (by decide) ?_
                  refine z_istore_n C [(0, .ref h6), (1, .int w), (2, .int x2_34), (3, .int x5_34), (4, .int x5_34), (5, .int x5_34)] dX6_run_91 rfl (by decide) [1, 2, 3, 0, 4, 5] rfl ?_
                  refine z_iload C dX6_run_92 5 rfl ?_
                  refine z_iload C dX6_run_94 4 rfl ?_
                  refine z_isub C dX6_run_96 ?_
                  refine z_iconst (v := (1 : Int32)) C dX6_run_97 (by decide) ?_
                  refine z_iadd C dX6_run_98 ?_
                  refine z_iload_n C dX6_run_99 rfl 2 rfl ?_
                  refine z_icmp_le (tgt := 113) C dX6_run_100 (by decide) (fun h9 => absurd h9 c82) (fun _ => ?_)
                  refine z_iload C dX6_run_103 5 rfl ?_
                  refine z_iload C dX6_run_105 4 rfl ?_
                  refine z_isub C dX6_run_107 ?_
                  refine z_iconst (v := (1 : Int32)) C dX6_run_108 (by decide) ?_
                  refine z_iadd C dX6_run_109 ?_
                  refine z_goto (tgt := 114) C dX6_run_110 (by decide) ?_
                  refine z_istore_n C [(0, .ref h6), (1, .int w), (2, .int ((x5_34 - x5_34) + (1 : Int32))), (3, .int x5_34), (4, .int x5_34), (5, .int x5_34)] dX6_run_114 rfl (by decide) [1, 2, 0, 3, 4, 5] rfl ?_
                  refine z_iinc (v := (x5_34 + (1 : Int32))) C [(0, .ref h6), (1, .int w), (2, .int ((x5_34 - x5_34) + (1 : Int32))), (3, .int x5_34), (4, .int x5_34), (5, .int (x5_34 + (1 : Int32)))] dX6_run_115 5 rfl (by rfl) (by decide) [1, 2, 3, 4, 5, 0] rfl ?_
                  refine z_goto (tgt := 34) C dX6_run_118 (by decide) ?_
                  exact ih34 (j + 1) ((x5_34 - x5_34) + (1 : Int32)) x5_34 x5_34 (x5_34 + (1 : Int32)) (by subst hu59 hu51 hu14; exact (by rw [e5]; exact nI_1 j)) (by subst hu59 hu51 hu14; exact (by have := z_jlt e5 (by omega) (z_tiN hpn (by omega)) c40; omega)) (by omega) hf
              · rw [if_pos c62] at hf
                have b62 := c62
                rw [← hu59, ← hu51] at c62
                refine z_iload C dX6_run_65 4 rfl ?_
                refine z_goto (tgt := 72) C dX6_run_67 (by decide) ?_
                refine z_istore C [(0, .ref h6), (1, .int w), (2, .int x2_34), (3, .int x3_34), (4, .int x4_34), (5, .int x5_34)] dX6_run_72 (by decide) [1, 2, 3, 4, 0, 5] rfl ?_
                refine z_iload C dX6_run_74 5 rfl ?_
                refine z_iload C dX6_run_76 4 rfl ?_
                refine z_isub C dX6_run_78 ?_
                refine z_iconst (v := (1 : Int32)) C dX6_run_79 (by decide) ?_
                refine z_iadd C dX6_run_80 ?_
                refine z_iload_n C dX6_run_81 rfl 2 rfl ?_
                refine z_icmp_le (tgt := 90) C dX6_run_82 (by decide) (fun c82 => ?_) (fun c82 => ?_)
                · rw [if_pos c82] at hf
                  refine z_iload_n C dX6_run_90 rfl 3 rfl ?_
                  refine z_istore_n C [(0, .ref h6), (1, .int w), (2, .int x2_34), (3, .int x3_34), (4, .int x4_34), (5, .int x5_34)] dX6_run_91 rfl (by decide) [1, 2, 3, 0, 4, 5] rfl ?_
                  refine z_iload C dX6_run_92 5 rfl ?_
                  refine z_iload C dX6_run_94 4 rfl ?_
                  refine z_isub C dX6_run_96 ?_
                  refine z_iconst (v := (1 : Int32)) C dX6_run_97 (by decide) ?_
                  refine z_iadd C dX6_run_98 ?_
                  refine z_iload_n C dX6_run_99 rfl 2 rfl ?_
                  refine z_icmp_le (tgt := 113) C dX6_run_100 (by decide) (fun _ => ?_) (fun h9 => absurd c82 h9)
                  refine z_iload_n C dX6_run_113 rfl 2 rfl ?_
                  refine z_istore_n C [(0, .ref h6), (1, .int w), (2, .int x2_34), (3, .int x3_34), (4, .int x4_34), (5, .int x5_34)] dX6_run_114 rfl (by decide) [1, 2, 0, 3, 4, 5] rfl ?_
                  refine z_iinc (v := (x5_34 + (1 : Int32))) C [(0, .ref h6), (1, .int w), (2, .int x2_34), (3, .int x3_34), (4, .int x4_34), (5, .int (x5_34 + (1 : Int32)))] dX6_run_115 5 rfl (by rfl) (by decide) [1, 2, 3, 4, 5, 0] rfl ?_
                  refine z_goto (tgt := 34) C dX6_run_118 (by decide) ?_
                  exact ih34 (j + 1) x2_34 x3_34 x4_34 (x5_34 + (1 : Int32)) (by subst hu59 hu51 hu14; exact (by rw [e5]; exact nI_1 j)) (by subst hu59 hu51 hu14; exact (by have := z_jlt e5 (by omega) (z_tiN hpn (by omega)) c40; omega)) (by omega) hf
                · rw [if_neg c82] at hf
                  refine z_iload C dX6_run_85 4 rfl ?_
                  refine z_goto (tgt := 91) C dX6_run_87 (by decide) ?_
                  refine z_istore_n C [(0, .ref h6), (1, .int w), (2, .int x2_34), (3, .int x4_34), (4, .int x4_34), (5, .int x5_34)] dX6_run_91 rfl (by decide) [1, 2, 3, 0, 4, 5] rfl ?_
                  refine z_iload C dX6_run_92 5 rfl ?_
                  refine z_iload C dX6_run_94 4 rfl ?_
                  refine z_isub C dX6_run_96 ?_
                  refine z_iconst (v := (1 : Int32)) C dX6_run_97 (by decide) ?_
                  refine z_iadd C dX6_run_98 ?_
                  refine z_iload_n C dX6_run_99 rfl 2 rfl ?_
                  refine z_icmp_le (tgt := 113) C dX6_run_100 (by decide) (fun h9 => absurd h9 c82) (fun _ => ?_)
                  refine z_iload C dX6_run_103 5 rfl ?_
                  refine z_iload C dX6_run_105 4 rfl ?_
                  refine z_isub C dX6_run_107 ?_
                  refine z_iconst (v := (1 : Int32)) C dX6_run_108 (by decide) ?_
                  refine z_iadd C dX6_run_109 ?_
                  refine z_goto (tgt := 114) C dX6_run_110 (by decide) ?_
                  refine z_istore_n C [(0, .ref h6), (1, .int w), (2, .int ((x5_34 - x4_34) + (1 : Int32))), (3, .int x4_34), (4, .int x4_34), (5, .int x5_34)] dX6_run_114 rfl (by decide) [1, 2, 0, 3, 4, 5] rfl ?_
                  refine z_iinc (v := (x5_34 + (1 : Int32))) C [(0, .ref h6), (1, .int w), (2, .int ((x5_34 - x4_34) + (1 : Int32))), (3, .int x4_34), (4, .int x4_34), (5, .int (x5_34 + (1 : Int32)))] dX6_run_115 5 rfl (by rfl) (by decide) [1, 2, 3, 4, 5, 0] rfl ?_
                  refine z_goto (tgt := 34) C dX6_run_118 (by decide) ?_
                  exact ih34 (j + 1) ((x5_34 - x4_34) + (1 : Int32)) x4_34 x4_34 (x5_34 + (1 : Int32)) (by subst hu59 hu51 hu14; exact (by rw [e5]; exact nI_1 j)) (by subst hu59 hu51 hu14; exact (by have := z_jlt e5 (by omega) (z_tiN hpn (by omega)) c40; omega)) (by omega) hf
      exact L34 10 0 (0 : Int32) (-9 : Int32) (0 : Int32) (0 : Int32) (by subst hu14; exact nI_0.symm) (by subst hu14; exact (Nat.zero_le _)) (by omega) hf
    · rw [if_pos c17] at hf
      have b17 := c17
      rw [← hu14] at c17
      refine z_bipush (v := (-2 : Int32)) C dX6_run_20 (by decide) ?_
      exact z_iretR C hr hlk (by rw [hf]) dX6_run_22
  · rw [if_pos c4] at hf
    refine z_bipush (v := (-3 : Int32)) C dX6_run_7 (by decide) ?_
    exact z_iretR C hr hlk (by rw [hf]) dX6_run_9
-- X6_shape
theorem i_X6_shape_6 : ∀ w ∈ u_ws RX6 TX6 30, w ∈ wsX6_shape := by decide +kernel
theorem m_X6_shape_1 : Cond.fieldLink RX6 68 "WishPinsModel" "pins" "I" ∈ wsX6_shape := List.mem_of_getElem? (i := 1) rfl
theorem m_X6_shape_2 : Cond.constantLong RX6 117 (2) ∈ wsX6_shape := List.mem_of_getElem? (i := 2) rfl
theorem m_X6_shape_3 : Cond.constantLong RX6 155 (5) ∈ wsX6_shape := List.mem_of_getElem? (i := 3) rfl
theorem m_X6_shape_4 : Cond.fieldLink RX6 132 "WishPinsModel" "yearNow" "I" ∈ wsX6_shape := List.mem_of_getElem? (i := 4) rfl
def F_X6_shape_k44 (x3_44 : Int32) (x4_44 : Int32) : Int32 :=
  x3_44
def F_X6_shape_l44 (sl : Int32) (dr : Int32) (yn : Int32) (k : Int32) (v : Int32) (K_ : Int32 → Int32 → Int32) : Nat → Int32 → Int32 → Int32
  | 0, x3_44, x4_44 => K_ x3_44 x4_44
  | d44 + 1, x3_44, x4_44 => (if x4_44 < 0 then (K_ x3_44 x4_44) else (if (F_X6_wishBy sl dr (F_X6_turnBy k x4_44) yn) = v then (F_X6_shape_l44 sl dr yn k v K_ d44 x4_44 (x4_44 + (-1 : Int32))) else (F_X6_shape_l44 sl dr yn k v K_ d44 x3_44 (x4_44 + (-1 : Int32)))))
def F_X6_shape (pn : Int32) (sl : Int32) (dr : Int32) (yn : Int32) (k : Int32) (v : Int32) : Int32 :=
  (if pn = 0 then (-3 : Int32) else (if (F_X6_in k.toInt64 (0 : Int64) (2 : Int64)) = 0 then (-2 : Int32) else (if (F_X6_in v.toInt64 (0 : Int64) (5 : Int64)) = 0 then (-2 : Int32) else (F_X6_shape_l44 sl dr yn k v F_X6_shape_k44 11 (-9 : Int32) (9 : Int32)))))
set_option maxHeartbeats 4000000 in
set_option maxRecDepth 100000 in
theorem c_X6_shape (l : Launch) (D : va_G) (cI cO : ClassId) (h6 : Nat) (q : Nat → Nat) (fl : Int32) (pn : Int32) (sl : Int32) (dr : Int32) (yn : Int32) (ra : Int32) (rp : Int32) (rs : Int32) (rd : Int32) (ry : Int32) (pk : Int32) (yk : Int32) (rg : Int32) (tc : Int32) (k : Int32) (v : Int32) : zR l yX6_shape wsX6_shape ({ frames := 1, cells := 0, slots := 0, locals := 25 } : Room) D cI cO [.ref h6, .int k, .int v] [(h6, .inr (6, fM fl pn sl dr yn ra rp rs rd ry pk yk rg tc q))] (some (.int (F_X6_shape pn sl dr yn k v))) := by
  refine zR_of (nL := 5) (cc := cX6_shape) (ret := some .int) (lv := [(0, .ref h6), (1, .int k), (2, .int v)]) (by decide +kernel) rfl (Nat.le_of_ble_eq_true rfl) rfl (fun p e s m args below meth c C hr hlk => ?_)
  have hf := F_X6_shape.eq_1 pn sl dr yn k v
  refine z_aload_n C dX6_shape_0 rfl 0 rfl ?_
  refine z_get (T := TX6) (v := .int pn) C i_X6_shape_6 0 rfl rfl 1 (by decide) m_X6_shape_1 rfl rfl dX6_shape_1 ?_
  refine z_if_ne (tgt := 10) C dX6_shape_4 (by decide) (fun c4 => ?_) (fun c4 => ?_)
  · rw [if_neg c4] at hf
    refine z_iload_n C dX6_shape_10 rfl 1 rfl ?_
    refine z_i2l C dX6_shape_11 ?_
    refine z_lconst (v := (0 : Int64)) C dX6_shape_12 (by decide) ?_
    refine z_ldc2 C m_X6_shape_2 dX6_shape_13 ?_
    refine z_cSR (As := [.long k.toInt64, .long (0 : Int64), .long (2 : Int64)]) C (c_X6_in l D cI cO k.toInt64 (0 : Int64) (2 : Int64)) (va_cwS 3 C.2.2.2.2.1 gX6_shape_X6_in rfl rfl rfl hdS_X6_in ⟨Nat.le_of_ble_eq_true rfl, Nat.le_of_ble_eq_true rfl⟩) [] rfl rfl rfl _ rfl (Nat.le_of_ble_eq_true rfl) ⟨Nat.zero_le _, Nat.zero_le _⟩ dX6_shape_16 ?_
    generalize hu16 : (F_X6_in k.toInt64 (0 : Int64) (2 : Int64)) = u16 at hf ⊢
    refine z_if_eq (tgt := 34) C dX6_shape_19 (by decide) (fun c19 => ?_) (fun c19 => ?_)
    · rw [if_pos c19] at hf
      have b19 := c19
      rw [← hu16] at c19
      refine z_bipush (v := (-2 : Int32)) C dX6_shape_34 (by decide) ?_
      exact z_iretR C hr hlk (by rw [hf]) dX6_shape_36
    · rw [if_neg c19] at hf
      have b19 := c19
      rw [← hu16] at c19
      refine z_iload_n C dX6_shape_22 rfl 2 rfl ?_
      refine z_i2l C dX6_shape_23 ?_
      refine z_lconst (v := (0 : Int64)) C dX6_shape_24 (by decide) ?_
      refine z_ldc2 C m_X6_shape_3 dX6_shape_25 ?_
      refine z_cSR (As := [.long v.toInt64, .long (0 : Int64), .long (5 : Int64)]) C (c_X6_in l D cI cO v.toInt64 (0 : Int64) (5 : Int64)) (va_cwS 3 C.2.2.2.2.1 gX6_shape_X6_in rfl rfl rfl hdS_X6_in ⟨Nat.le_of_ble_eq_true rfl, Nat.le_of_ble_eq_true rfl⟩) [] rfl rfl rfl _ rfl (Nat.le_of_ble_eq_true rfl) ⟨Nat.zero_le _, Nat.zero_le _⟩ dX6_shape_28 ?_
      generalize hu28 : (F_X6_in v.toInt64 (0 : Int64) (5 : Int64)) = u28 at hf ⊢
      refine z_if_ne (tgt := 37) C dX6_shape_31 (by decide) (fun c31 => ?_) (fun c31 => ?_)
      · rw [if_neg c31] at hf
        have b31 := c31
        rw [← hu28] at c31
        refine z_bipush (v := (-9 : Int32)) C dX6_shape_37 (by decide) ?_
        refine z_istore_n C [(0, .ref h6), (1, .int k), (2, .int v), (3, .int (-9 : Int32))] dX6_shape_39 rfl (by decide) [1, 2, 3, 0] rfl ?_
        refine z_bipush (v := (9 : Int32)) C dX6_shape_40 (by decide) ?_
        refine z_istore C [(0, .ref h6), (1, .int k), (2, .int v), (3, .int (-9 : Int32)), (4, .int (9 : Int32))] dX6_shape_42 (by decide) [1, 2, 3, 4, 0] rfl ?_
        have X44 : ∀ (x3_44 : Int32) (x4_44 : Int32), F_X6_shape pn sl dr yn k v = F_X6_shape_k44 x3_44 x4_44 → zG p l e ({ frames := 1, cells := 0, slots := 0, locals := 25 } : Room) s m args below meth c D (fun _ => True) (zXr s) 5 0 0 (MQ below (zQr (some (.int (F_X6_shape pn sl dr yn k v)))) args s 0 0 (fun _ => False)) 80 [(0, .ref h6), (1, .int k), (2, .int v), (3, .int x3_44), (4, .int x4_44)] [] [(h6, .inr (6, fM fl pn sl dr yn ra rp rs rd ry pk yk rg tc q))] := by
          intro x3_44 x4_44 hf
          rw [F_X6_shape_k44] at hf
          skip
          refine z_iload_n C dX6_shape_80 rfl 3 rfl ?_
          exact z_iretR C hr hlk (by rw [hf]) dX6_shape_81
        have L44 : ∀ (d44 : Nat) (a : Nat) (x3_44 : Int32) (x4_44 : Int32) (e4 : x4_44 = nI a - 1) (ha : a ≤ 10) (hd : a < d44), F_X6_shape pn sl dr yn k v = F_X6_shape_l44 sl dr yn k v F_X6_shape_k44 d44 x3_44 x4_44 → zG p l e ({ frames := 1, cells := 0, slots := 0, locals := 25 } : Room) s m args below meth c D (fun _ => True) (zXr s) 5 0 0 (MQ below (zQr (some (.int (F_X6_shape pn sl dr yn k v)))) args s 0 0 (fun _ => False)) 44 [(0, .ref h6), (1, .int k), (2, .int v), (3, .int x3_44), (4, .int x4_44)] [] [(h6, .inr (6, fM fl pn sl dr yn ra rp rs rd ry pk yk rg tc q))] := by
          intro d44
          induction d44 with
          | zero =>
            intro a x3_44 x4_44 e4 ha hd hf
            exfalso; omega
          | succ d44 ih44 =>
            intro a x3_44 x4_44 e4 ha hd hf
            rw [F_X6_shape_l44] at hf
            skip
            refine z_iload C dX6_shape_44 4 rfl ?_
            refine z_if_lt (tgt := 80) C dX6_shape_46 (by decide) (fun c46 => ?_) (fun c46 => ?_)
            · rw [if_pos c46] at hf
              exact X44 x3_44 x4_44  hf
            · rw [if_neg c46] at hf
              refine z_aload_n C dX6_shape_49 rfl 0 rfl ?_
              refine z_iload_n C dX6_shape_50 rfl 1 rfl ?_
              refine z_iload C dX6_shape_51 4 rfl ?_
              refine z_cSR (As := [.int k, .int x4_44]) C (c_X6_turnBy l D cI cO k x4_44) (va_cwS 2 C.2.2.2.2.1 gX6_shape_X6_turnBy rfl rfl rfl hdS_X6_turnBy ⟨Nat.le_of_ble_eq_true rfl, Nat.le_of_ble_eq_true rfl⟩) [] rfl rfl rfl _ rfl (Nat.le_of_ble_eq_true rfl) ⟨Nat.zero_le _, Nat.zero_le _⟩ dX6_shape_53 ?_
              generalize hu53 : (F_X6_turnBy k x4_44) = u53 at hf ⊢
              refine z_aload_n C dX6_shape_56 rfl 0 rfl ?_
              refine z_get (T := TX6) (v := .int yn) C i_X6_shape_6 0 rfl rfl 4 (by decide) m_X6_shape_4 rfl rfl dX6_shape_57 ?_
              refine z_cVR (As := [.int u53, .int yn]) C (c_X6_wishBy l D cI cO h6 q fl pn sl dr yn ra rp rs rd ry pk yk rg tc u53 yn) (cwV 2 C.2.2.2.2.1 gX6_shape_X6_wishBy rfl rfl rfl hdV_X6_wishBy ⟨Nat.le_of_ble_eq_true rfl, Nat.le_of_ble_eq_true rfl⟩) [0] rfl rfl 0 rfl rfl rfl _ rfl (Nat.le_of_ble_eq_true rfl) ⟨Nat.zero_le _, Nat.zero_le _⟩ dX6_shape_60 ?_
              generalize hu60 : (F_X6_wishBy sl dr u53 yn) = u60 at hf ⊢
              refine z_iload_n C dX6_shape_63 rfl 2 rfl ?_
              refine z_icmp_ne (tgt := 72) C dX6_shape_64 (by decide) (fun c64 => ?_) (fun c64 => ?_)
              · rw [if_neg c64] at hf
                have b64 := c64
                rw [← hu60] at c64
                refine z_iload_n C dX6_shape_72 rfl 3 rfl ?_
                refine z_istore_n C [(0, .ref h6), (1, .int k), (2, .int v), (3, .int x3_44), (4, .int x4_44)] dX6_shape_73 rfl (by decide) [1, 2, 3, 0, 4] rfl ?_
                refine z_iinc (v := (x4_44 + (-1 : Int32))) C [(0, .ref h6), (1, .int k), (2, .int v), (3, .int x3_44), (4, .int (x4_44 + (-1 : Int32)))] dX6_shape_74 4 rfl (by rfl) (by decide) [1, 2, 3, 4, 0] rfl ?_
                refine z_goto (tgt := 44) C dX6_shape_77 (by decide) ?_
                exact ih44 (a - 1) x3_44 (x4_44 + (-1 : Int32)) (by subst hu60 hu53 hu28 hu16; exact (z_dn e4 (by omega) c46).2.1) (by omega) (by subst hu60 hu53 hu28 hu16; exact (by have := (z_dn e4 (by omega) c46).1; omega)) hf
              · rw [if_pos c64] at hf
                have b64 := c64
                rw [← hu60] at c64
                refine z_iload C dX6_shape_67 4 rfl ?_
                refine z_goto (tgt := 73) C dX6_shape_69 (by decide) ?_
                refine z_istore_n C [(0, .ref h6), (1, .int k), (2, .int v), (3, .int x4_44), (4, .int x4_44)] dX6_shape_73 rfl (by decide) [1, 2, 3, 0, 4] rfl ?_
                refine z_iinc (v := (x4_44 + (-1 : Int32))) C [(0, .ref h6), (1, .int k), (2, .int v), (3, .int x4_44), (4, .int (x4_44 + (-1 : Int32)))] dX6_shape_74 4 rfl (by rfl) (by decide) [1, 2, 3, 4, 0] rfl ?_
                refine z_goto (tgt := 44) C dX6_shape_77 (by decide) ?_
                exact ih44 (a - 1) x4_44 (x4_44 + (-1 : Int32)) (by subst hu60 hu53 hu28 hu16; exact (z_dn e4 (by omega) c46).2.1) (by omega) (by subst hu60 hu53 hu28 hu16; exact (by have := (z_dn e4 (by omega) c46).1; omega)) hf
        exact L44 11 10 (-9 : Int32) (9 : Int32) (by subst hu28 hu16; exact (by rfl)) (by omega) (by omega) hf
      · rw [if_pos c31] at hf
        have b31 := c31
        rw [← hu28] at c31
        refine z_bipush (v := (-2 : Int32)) C dX6_shape_34 (by decide) ?_
        exact z_iretR C hr hlk (by rw [hf]) dX6_shape_36
  · rw [if_pos c4] at hf
    refine z_bipush (v := (-3 : Int32)) C dX6_shape_7 (by decide) ?_
    exact z_iretR C hr hlk (by rw [hf]) dX6_shape_9
-- X6_mayLie
theorem i_X6_mayLie_6 : ∀ w ∈ u_ws RX6 TX6 30, w ∈ wsX6_mayLie := by decide +kernel
theorem m_X6_mayLie_1 : Cond.fieldLink RX6 16 "WishPinsModel" "yearOf" "[I" ∈ wsX6_mayLie := List.mem_of_getElem? (i := 1) rfl
def F_X6_mayLie (sl : Int32) (dr : Int32) (ko : Nat → Int32) (bo : Nat → Int32) (yo : Nat → Int32) (k : Int32) (a : Int32) (w : Int32) : Int32 :=
  (if w = (6 : Int32) then (1 : Int32) else (if (F_X6_wishBy sl dr (F_X6_turnOf ko bo k) (yo a.toNatClampNeg)) = w then (1 : Int32) else (0 : Int32)))
set_option maxHeartbeats 4000000 in
set_option maxRecDepth 100000 in
theorem c_X6_mayLie (l : Launch) (D : va_G) (cI cO : ClassId) (h6 : Nat) (q : Nat → Nat) (fl : Int32) (pn : Int32) (sl : Int32) (dr : Int32) (yn : Int32) (ra : Int32) (rp : Int32) (rs : Int32) (rd : Int32) (ry : Int32) (pk : Int32) (yk : Int32) (rg : Int32) (tc : Int32) (ko : Nat → Int32) (bo : Nat → Int32) (yo : Nat → Int32) (k : Int32) (a : Int32) (w : Int32) (hk : vp_in k 9) (hat : vp_in a 9) : zR l yX6_mayLie wsX6_mayLie ({ frames := 2, cells := 0, slots := 0, locals := 42 } : Room) D cI cO [.ref h6, .int k, .int a, .int w] [(h6, .inr (6, fM fl pn sl dr yn ra rp rs rd ry pk yk rg tc q)), ((q 5), .inl (cI, 9, .inl ko)), ((q 6), .inl (cI, 9, .inl bo)), ((q 7), .inl (cI, 9, .inl yo))] (some (.int (F_X6_mayLie sl dr ko bo yo k a w))) := by
  refine zR_of (nL := 4) (cc := cX6_mayLie) (ret := some .boolean) (lv := [(0, .ref h6), (1, .int k), (2, .int a), (3, .int w)]) (by decide +kernel) rfl (Nat.le_of_ble_eq_true rfl) rfl (fun p e s m args below meth c C hr hlk => ?_)
  have hf := F_X6_mayLie.eq_1 sl dr ko bo yo k a w
  refine z_iload_n C dX6_mayLie_0 rfl 3 rfl ?_
  refine z_bipush (v := (6 : Int32)) C dX6_mayLie_1 (by decide) ?_
  refine z_icmp_eq (tgt := 25) C dX6_mayLie_3 (by decide) (fun c3 => ?_) (fun c3 => ?_)
  · rw [if_pos c3] at hf
    refine z_iconst (v := (1 : Int32)) C dX6_mayLie_25 (by decide) ?_
    refine z_goto (tgt := 30) C dX6_mayLie_26 (by decide) ?_
    exact z_zretR C hr hlk rfl (by rw [hf]) dX6_mayLie_30
  · rw [if_neg c3] at hf
    refine z_aload_n C dX6_mayLie_6 rfl 0 rfl ?_
    refine z_aload_n C dX6_mayLie_7 rfl 0 rfl ?_
    refine z_iload_n C dX6_mayLie_8 rfl 1 rfl ?_
    refine z_cVR (As := [.int k]) C (c_X6_turnOf l D cI cO h6 q fl pn sl dr yn ra rp rs rd ry pk yk rg tc ko bo k hk) (cwV 1 C.2.2.2.2.1 gX6_mayLie_X6_turnOf rfl rfl rfl hdV_X6_turnOf ⟨Nat.le_of_ble_eq_true rfl, Nat.le_of_ble_eq_true rfl⟩) [0, 1, 2] rfl rfl 0 rfl rfl rfl _ rfl (Nat.le_of_ble_eq_true rfl) ⟨Nat.zero_le _, Nat.zero_le _⟩ dX6_mayLie_9 ?_
    generalize hu9 : (F_X6_turnOf ko bo k) = u9 at hf ⊢
    refine z_aload_n C dX6_mayLie_12 rfl 0 rfl ?_
    refine z_get (T := TX6) (v := .ref (q 7)) C i_X6_mayLie_6 0 rfl rfl 7 (by decide) m_X6_mayLie_1 rfl rfl dX6_mayLie_13 ?_
    refine z_iload_n C dX6_mayLie_16 rfl 2 rfl ?_
    refine z_ald C 3 rfl (by subst hu9; exact hat) dX6_mayLie_17 ?_
    refine z_cVR (As := [.int u9, .int (yo a.toNatClampNeg)]) C (c_X6_wishBy l D cI cO h6 q fl pn sl dr yn ra rp rs rd ry pk yk rg tc u9 (yo a.toNatClampNeg)) (cwV 2 C.2.2.2.2.1 gX6_mayLie_X6_wishBy rfl rfl rfl hdV_X6_wishBy ⟨Nat.le_of_ble_eq_true rfl, Nat.le_of_ble_eq_true rfl⟩) [0] rfl rfl 0 rfl rfl rfl _ rfl (Nat.le_of_ble_eq_true rfl) ⟨Nat.zero_le _, Nat.zero_le _⟩ dX6_mayLie_18 ?_
    generalize hu18 : (F_X6_wishBy sl dr u9 (yo a.toNatClampNeg)) = u18 at hf ⊢
    refine z_iload_n C dX6_mayLie_21 rfl 3 rfl ?_
    refine z_icmp_ne (tgt := 29) C dX6_mayLie_22 (by decide) (fun c22 => ?_) (fun c22 => ?_)
    · rw [if_neg c22] at hf
      have b22 := c22
      rw [← hu18] at c22
      refine z_iconst (v := (0 : Int32)) C dX6_mayLie_29 (by decide) ?_
      exact z_zretR C hr hlk rfl (by rw [hf]) dX6_mayLie_30
    · rw [if_pos c22] at hf
      have b22 := c22
      rw [← hu18] at c22
      refine z_iconst (v := (1 : Int32)) C dX6_mayLie_25 (by decide) ?_
      refine z_goto (tgt := 30) C dX6_mayLie_26 (by decide) ?_
      exact z_zretR C hr hlk rfl (by rw [hf]) dX6_mayLie_30
