theorem code_ix {tf tn ra : Int32} {f0 n0 : Nat} (hf0 : tf = nI f0) (hn0 : tn = nI n0) (hfn : f0 + n0 ≤ 240) (hra : ¬ ra < 0) (h : ¬ tn ≤ ra) : vp_in (tf + ra) 240 := by
  obtain ⟨r, h1, h2⟩ := nI_of hra
  have h3 : r < n0 := by
    have := Int32.lt_iff_toInt_lt.mp (Int32.not_le.mp h)
    rw [h2, hn0, nI_toInt h1, nI_toInt (by omega)] at this
    omega
  exact z_ixN (by rw [hf0, h2]; exact nI_add _ _) (show f0 + r < 240 by omega) (by decide)
theorem z_inc {tn ra : Int32} {n0 : Nat} (hn0 : tn = nI n0) (hb : n0 ≤ 240) (hra : ¬ ra < 0) (h : ¬ tn ≤ ra) : ¬ ra + 1 < 0 := by
  obtain ⟨r, h1, h2⟩ := nI_of hra
  have h3 : r < n0 := by
    have := Int32.lt_iff_toInt_lt.mp (Int32.not_le.mp h)
    rw [h2, hn0, nI_toInt h1, nI_toInt (by omega)] at this
    omega
  rw [h2, nI_1]
  exact nI_pos (by omega)
-- X6_codeAt
theorem i_X6_codeAt_6 : ∀ w ∈ u_ws RX6 TX6 30, w ∈ wsX6_codeAt := by decide +kernel
theorem m_X6_codeAt_1 : Cond.fieldLink RX6 75 "WishPinsModel" "readAt" "I" ∈ wsX6_codeAt := List.mem_of_getElem? (i := 1) rfl
theorem m_X6_codeAt_2 : Cond.fieldLink RX6 52 "WishPinsModel" "sheet" "[I" ∈ wsX6_codeAt := List.mem_of_getElem? (i := 2) rfl
def F_X6_codeAt (ra : Int32) (sh : Nat → Int32) (tf : Int32) (tn : Int32) : Int32 :=
  (if tn ≤ ra then (-9 : Int32) else (sh (tf + ra).toNatClampNeg))
set_option maxHeartbeats 4000000 in
set_option maxRecDepth 100000 in
theorem c_X6_codeAt (l : Launch) (D : va_G) (cI cO : ClassId) (h6 : Nat) (q : Nat → Nat) (fl : Int32) (pn : Int32) (sl : Int32) (dr : Int32) (yn : Int32) (ra : Int32) (rp : Int32) (rs : Int32) (rd : Int32) (ry : Int32) (pk : Int32) (yk : Int32) (rg : Int32) (tc : Int32) (sh : Nat → Int32) (tf : Int32) (tn : Int32) (f0 : Nat) (n0 : Nat) (hf0 : tf = nI f0) (hn0 : tn = nI n0) (hfn : f0 + n0 ≤ 240) (hra : ¬ ra < 0) : zR l yX6_codeAt wsX6_codeAt ({ frames := 0, cells := 0, slots := 0, locals := 0 } : Room) D cI cO [.ref h6, .int tf, .int tn] [(h6, .inr (6, fM fl pn sl dr yn ra rp rs rd ry pk yk rg tc q)), ((q 27), .inl (cI, 240, .inl sh))] (some (.int (F_X6_codeAt ra sh tf tn))) := by
  refine zR_of (nL := 3) (cc := cX6_codeAt) (ret := some .int) (lv := [(0, .ref h6), (1, .int tf), (2, .int tn)]) (by decide +kernel) rfl (Nat.le_of_ble_eq_true rfl) rfl (fun p e s m args below meth c C hr hlk => ?_)
  have hf := F_X6_codeAt.eq_1 ra sh tf tn
  refine z_aload_n C dX6_codeAt_0 rfl 0 rfl ?_
  refine z_get (T := TX6) (v := .int ra) C i_X6_codeAt_6 0 rfl rfl 8 (by decide) m_X6_codeAt_1 rfl rfl dX6_codeAt_1 ?_
  refine z_iload_n C dX6_codeAt_4 rfl 2 rfl ?_
  refine z_icmp_ge (tgt := 22) C dX6_codeAt_5 (by decide) (fun c5 => ?_) (fun c5 => ?_)
  · rw [if_pos c5] at hf
    refine z_bipush (v := (-9 : Int32)) C dX6_codeAt_22 (by decide) ?_
    exact z_iretR C hr hlk (by rw [hf]) dX6_codeAt_24
  · rw [if_neg c5] at hf
    refine z_aload_n C dX6_codeAt_8 rfl 0 rfl ?_
    refine z_get (T := TX6) (v := .ref (q 27)) C i_X6_codeAt_6 0 rfl rfl 27 (by decide) m_X6_codeAt_2 rfl rfl dX6_codeAt_9 ?_
    refine z_iload_n C dX6_codeAt_12 rfl 1 rfl ?_
    refine z_aload_n C dX6_codeAt_13 rfl 0 rfl ?_
    refine z_get (T := TX6) (v := .int ra) C i_X6_codeAt_6 0 rfl rfl 8 (by decide) m_X6_codeAt_1 rfl rfl dX6_codeAt_14 ?_
    refine z_iadd C dX6_codeAt_17 ?_
    refine z_ald C 1 rfl (code_ix hf0 hn0 hfn hra c5) dX6_codeAt_18 ?_
    refine z_goto (tgt := 24) C dX6_codeAt_19 (by decide) ?_
    exact z_iretR C hr hlk (by rw [hf]) dX6_codeAt_24
theorem code_lt {ra tf tn K : Int32} {sh : Nat → Int32} (h : F_X6_codeAt ra sh tf tn = K) (hK : ¬ K = -9) : ¬ tn ≤ ra := by
  intro q
  rw [F_X6_codeAt, if_pos q] at h
  exact hK h.symm
-- X6_figure
theorem i_X6_figure_6 : ∀ w ∈ u_ws RX6 TX6 30, w ∈ wsX6_figure := by decide +kernel
theorem m_X6_figure_1 : Cond.fieldLink RX6 75 "WishPinsModel" "readAt" "I" ∈ wsX6_figure := List.mem_of_getElem? (i := 1) rfl
def F_X6_figure (ra : Int32) (sh : Nat → Int32) (tf : Int32) (tn : Int32) (ah : Int32) (lw : Int32) (hg : Int32) : Int32 × Int32 :=
  (if 0 ≤ ah then (if (F_X6_in (((F_X6_codeAt ra sh tf tn) - (48 : Int32)).toInt64) lw.toInt64 hg.toInt64) = 0 then ((-9 : Int32), (ra + (0 : Int32))) else (((F_X6_codeAt ra sh tf tn) - (48 : Int32)), (ra + (1 : Int32)))) else (if (F_X6_in ((-9 : Int32).toInt64) lw.toInt64 hg.toInt64) = 0 then ((-9 : Int32), (ra + (0 : Int32))) else ((-9 : Int32), (ra + (1 : Int32)))))
set_option maxHeartbeats 4000000 in
set_option maxRecDepth 100000 in
theorem c_X6_figure (l : Launch) (D : va_G) (cI cO : ClassId) (h6 : Nat) (q : Nat → Nat) (fl : Int32) (pn : Int32) (sl : Int32) (dr : Int32) (yn : Int32) (ra : Int32) (rp : Int32) (rs : Int32) (rd : Int32) (ry : Int32) (pk : Int32) (yk : Int32) (rg : Int32) (tc : Int32) (sh : Nat → Int32) (tf : Int32) (tn : Int32) (ah : Int32) (lw : Int32) (hg : Int32) (f0 : Nat) (n0 : Nat) (hf0 : tf = nI f0) (hn0 : tn = nI n0) (hfn : f0 + n0 ≤ 240) (hra : ¬ ra < 0) : zW l yX6_figure wsX6_figure ({ frames := 1, cells := 0, slots := 0, locals := 25 } : Room) D cI cO [.ref h6, .int tf, .int tn, .int ah, .int lw, .int hg] [(h6, .inr (6, fM fl pn sl dr yn ra rp rs rd ry pk yk rg tc q)), ((q 27), .inl (cI, 240, .inl sh))] [(h6, .inr (6, fM fl pn sl dr yn ((F_X6_figure ra sh tf tn ah lw hg).2) rp rs rd ry pk yk rg tc q)), ((q 27), .inl (cI, 240, .inl sh))] (some (.int ((F_X6_figure ra sh tf tn ah lw hg).1))) := by
  refine zW_of (nL := 8) (cc := cX6_figure) (ret := some .int) (lv := [(0, .ref h6), (1, .int tf), (2, .int tn), (3, .int ah), (4, .int lw), (5, .int hg)]) (by decide +kernel) rfl (Nat.le_of_ble_eq_true rfl) rfl (fun p e s m args below meth c C hr hlk => ?_)
  have hf := F_X6_figure.eq_1 ra sh tf tn ah lw hg
  refine z_iload_n C dX6_figure_0 rfl 3 rfl ?_
  refine z_if_ge (tgt := 9) C dX6_figure_1 (by decide) (fun c1 => ?_) (fun c1 => ?_)
  · rw [if_pos c1] at hf
    refine z_aload_n C dX6_figure_9 rfl 0 rfl ?_
    refine z_iload_n C dX6_figure_10 rfl 1 rfl ?_
    refine z_iload_n C dX6_figure_11 rfl 2 rfl ?_
    refine z_cVR (As := [.int tf, .int tn]) C (c_X6_codeAt l D cI cO h6 q fl pn sl dr yn ra rp rs rd ry pk yk rg tc sh tf tn f0 n0 hf0 hn0 hfn hra) (cwV 2 C.2.2.2.2.1 gX6_figure_X6_codeAt rfl rfl rfl hdV_X6_codeAt ⟨Nat.le_of_ble_eq_true rfl, Nat.le_of_ble_eq_true rfl⟩) [0, 1] rfl rfl 0 rfl rfl rfl _ rfl (Nat.le_of_ble_eq_true rfl) ⟨Nat.zero_le _, Nat.zero_le _⟩ dX6_figure_12 ?_
    generalize hu12 : (F_X6_codeAt ra sh tf tn) = u12 at hf ⊢
    refine z_bipush (v := (48 : Int32)) C dX6_figure_15 (by decide) ?_
    refine z_isub C dX6_figure_17 ?_
    refine z_istore C [(0, .ref h6), (1, .int tf), (2, .int tn), (3, .int ah), (4, .int lw), (5, .int hg), (6, .int (u12 - (48 : Int32)))] dX6_figure_18 (by decide) [1, 2, 3, 4, 5, 6, 0] rfl ?_
    refine z_iload C dX6_figure_20 6 rfl ?_
    refine z_i2l C dX6_figure_22 ?_
    refine z_iload C dX6_figure_23 4 rfl ?_
    refine z_i2l C dX6_figure_25 ?_
    refine z_iload C dX6_figure_26 5 rfl ?_
    refine z_i2l C dX6_figure_28 ?_
    refine z_cSR (As := [.long ((u12 - (48 : Int32)).toInt64), .long lw.toInt64, .long hg.toInt64]) C (c_X6_in l D cI cO ((u12 - (48 : Int32)).toInt64) lw.toInt64 hg.toInt64) (va_cwS 3 C.2.2.2.2.1 gX6_figure_X6_in rfl rfl rfl hdS_X6_in ⟨Nat.le_of_ble_eq_true rfl, Nat.le_of_ble_eq_true rfl⟩) [] rfl rfl rfl _ rfl (Nat.le_of_ble_eq_true rfl) ⟨Nat.zero_le _, Nat.zero_le _⟩ dX6_figure_29 ?_
    generalize hu29 : (F_X6_in ((u12 - (48 : Int32)).toInt64) lw.toInt64 hg.toInt64) = u29 at hf ⊢
    refine z_istore C [(0, .ref h6), (1, .int tf), (2, .int tn), (3, .int ah), (4, .int lw), (5, .int hg), (6, .int (u12 - (48 : Int32))), (7, .int u29)] dX6_figure_32 (by decide) [1, 2, 3, 4, 5, 6, 7, 0] rfl ?_
    refine z_aload_n C dX6_figure_34 rfl 0 rfl ?_
    refine z_dup C dX6_figure_35 rfl ?_
    refine z_get (T := TX6) (v := .int ra) C i_X6_figure_6 0 rfl rfl 8 (by decide) m_X6_figure_1 rfl rfl dX6_figure_36 ?_
    refine z_iload C dX6_figure_39 7 rfl ?_
    refine z_if_eq (tgt := 48) C dX6_figure_41 (by decide) (fun c41 => ?_) (fun c41 => ?_)
    · rw [if_pos c41] at hf
      have b41 := c41
      rw [← hu29] at c41
      refine z_iconst (v := (0 : Int32)) C dX6_figure_48 (by decide) ?_
      refine z_iadd C dX6_figure_49 ?_
      refine z_put (T := TX6) (ty := .int) C [(h6, .inr (6, fM fl pn sl dr yn (ra + (0 : Int32)) rp rs rd ry pk yk rg tc q)), ((q 27), .inl (cI, 240, .inl sh))] i_X6_figure_6 tyX6 tyX6_ok nmX6 0 rfl rfl 8 (by decide) m_X6_figure_1 rfl rfl (by decide +kernel) rfl rfl (Nat.le_of_ble_eq_true rfl) dX6_figure_50 rfl ?_
      refine z_iload C dX6_figure_53 7 rfl ?_
      refine z_if_eq (tgt := 63) C dX6_figure_55 (by decide) (fun _ => ?_) (fun h9 => absurd b41 h9)
      refine z_bipush (v := (-9 : Int32)) C dX6_figure_63 (by decide) ?_
      exact z_iretW C hr hlk (by rw [hf]) (by rw [hf]) dX6_figure_65
    · rw [if_neg c41] at hf
      have b41 := c41
      rw [← hu29] at c41
      refine z_iconst (v := (1 : Int32)) C dX6_figure_44 (by decide) ?_
      refine z_goto (tgt := 49) C dX6_figure_45 (by decide) ?_
      refine z_iadd C dX6_figure_49 ?_
      refine z_put (T := TX6) (ty := .int) C [(h6, .inr (6, fM fl pn sl dr yn (ra + (1 : Int32)) rp rs rd ry pk yk rg tc q)), ((q 27), .inl (cI, 240, .inl sh))] i_X6_figure_6 tyX6 tyX6_ok nmX6 0 rfl rfl 8 (by decide) m_X6_figure_1 rfl rfl (by decide +kernel) rfl rfl (Nat.le_of_ble_eq_true rfl) dX6_figure_50 rfl ?_
      refine z_iload C dX6_figure_53 7 rfl ?_
      refine z_if_eq (tgt := 63) C dX6_figure_55 (by decide) (fun h9 => absurd h9 b41) (fun _ => ?_)
      refine z_iload C dX6_figure_58 6 rfl ?_
      refine z_goto (tgt := 65) C dX6_figure_60 (by decide) ?_
      exact z_iretW C hr hlk (by rw [hf]) (by rw [hf]) dX6_figure_65
  · rw [if_neg c1] at hf
    refine z_bipush (v := (-9 : Int32)) C dX6_figure_4 (by decide) ?_
    refine z_goto (tgt := 18) C dX6_figure_6 (by decide) ?_
    refine z_istore C [(0, .ref h6), (1, .int tf), (2, .int tn), (3, .int ah), (4, .int lw), (5, .int hg), (6, .int (-9 : Int32))] dX6_figure_18 (by decide) [1, 2, 3, 4, 5, 6, 0] rfl ?_
    refine z_iload C dX6_figure_20 6 rfl ?_
    refine z_i2l C dX6_figure_22 ?_
    refine z_iload C dX6_figure_23 4 rfl ?_
    refine z_i2l C dX6_figure_25 ?_
    refine z_iload C dX6_figure_26 5 rfl ?_
    refine z_i2l C dX6_figure_28 ?_
    refine z_cSR (As := [.long ((-9 : Int32).toInt64), .long lw.toInt64, .long hg.toInt64]) C (c_X6_in l D cI cO ((-9 : Int32).toInt64) lw.toInt64 hg.toInt64) (va_cwS 3 C.2.2.2.2.1 gX6_figure_X6_in rfl rfl rfl hdS_X6_in ⟨Nat.le_of_ble_eq_true rfl, Nat.le_of_ble_eq_true rfl⟩) [] rfl rfl rfl _ rfl (Nat.le_of_ble_eq_true rfl) ⟨Nat.zero_le _, Nat.zero_le _⟩ dX6_figure_29 ?_
    generalize hu29 : (F_X6_in ((-9 : Int32).toInt64) lw.toInt64 hg.toInt64) = u29 at hf ⊢
    refine z_istore C [(0, .ref h6), (1, .int tf), (2, .int tn), (3, .int ah), (4, .int lw), (5, .int hg), (6, .int (-9 : Int32)), (7, .int u29)] dX6_figure_32 (by decide) [1, 2, 3, 4, 5, 6, 7, 0] rfl ?_
    refine z_aload_n C dX6_figure_34 rfl 0 rfl ?_
    refine z_dup C dX6_figure_35 rfl ?_
    refine z_get (T := TX6) (v := .int ra) C i_X6_figure_6 0 rfl rfl 8 (by decide) m_X6_figure_1 rfl rfl dX6_figure_36 ?_
    refine z_iload C dX6_figure_39 7 rfl ?_
    refine z_if_eq (tgt := 48) C dX6_figure_41 (by decide) (fun c41 => ?_) (fun c41 => ?_)
    · rw [if_pos c41] at hf
      have b41 := c41
      rw [← hu29] at c41
      refine z_iconst (v := (0 : Int32)) C dX6_figure_48 (by decide) ?_
      refine z_iadd C dX6_figure_49 ?_
      refine z_put (T := TX6) (ty := .int) C [(h6, .inr (6, fM fl pn sl dr yn (ra + (0 : Int32)) rp rs rd ry pk yk rg tc q)), ((q 27), .inl (cI, 240, .inl sh))] i_X6_figure_6 tyX6 tyX6_ok nmX6 0 rfl rfl 8 (by decide) m_X6_figure_1 rfl rfl (by decide +kernel) rfl rfl (Nat.le_of_ble_eq_true rfl) dX6_figure_50 rfl ?_
      refine z_iload C dX6_figure_53 7 rfl ?_
      refine z_if_eq (tgt := 63) C dX6_figure_55 (by decide) (fun _ => ?_) (fun h9 => absurd b41 h9)
      refine z_bipush (v := (-9 : Int32)) C dX6_figure_63 (by decide) ?_
      exact z_iretW C hr hlk (by rw [hf]) (by rw [hf]) dX6_figure_65
    · rw [if_neg c41] at hf
      have b41 := c41
      rw [← hu29] at c41
      refine z_iconst (v := (1 : Int32)) C dX6_figure_44 (by decide) ?_
      refine z_goto (tgt := 49) C dX6_figure_45 (by decide) ?_
      refine z_iadd C dX6_figure_49 ?_
      refine z_put (T := TX6) (ty := .int) C [(h6, .inr (6, fM fl pn sl dr yn (ra + (1 : Int32)) rp rs rd ry pk yk rg tc q)), ((q 27), .inl (cI, 240, .inl sh))] i_X6_figure_6 tyX6 tyX6_ok nmX6 0 rfl rfl 8 (by decide) m_X6_figure_1 rfl rfl (by decide +kernel) rfl rfl (Nat.le_of_ble_eq_true rfl) dX6_figure_50 rfl ?_
      refine z_iload C dX6_figure_53 7 rfl ?_
      refine z_if_eq (tgt := 63) C dX6_figure_55 (by decide) (fun h9 => absurd h9 b41) (fun _ => ?_)
      refine z_iload C dX6_figure_58 6 rfl ?_
      refine z_goto (tgt := 65) C dX6_figure_60 (by decide) ?_
      exact z_iretW C hr hlk (by rw [hf]) (by rw [hf]) dX6_figure_65
theorem figure_ra {ra tf tn ah lw hg : Int32} {sh : Nat → Int32} {n0 : Nat} (hn0 : tn = nI n0) (hb : n0 ≤ 240) (hlw : 0 ≤ lw.toInt) (hra : ¬ ra < 0) : ¬ (F_X6_figure ra sh tf tn ah lw hg).2 < 0 := by
  rw [F_X6_figure]
  have z0 : ra + 0 = ra := Int32.add_zero ra
  by_cases c1 : 0 ≤ ah
  · rw [if_pos c1]
    by_cases c2 : F_X6_in ((F_X6_codeAt ra sh tf tn) - (48 : Int32)).toInt64 lw.toInt64 hg.toInt64 = 0
    · rw [if_pos c2]; show ¬ ra + 0 < 0; rw [z0]; exact hra
    · rw [if_neg c2]
      show ¬ ra + 1 < 0
      refine z_inc hn0 hb hra (fun q => ?_)
      refine c2 ?_
      rw [in_iff, l_ti, l_ti, F_X6_codeAt, if_pos q]
      left
      rw [show ((-9 : Int32) - 48).toInt = -57 by decide]
      omega
  · rw [if_neg c1]
    by_cases c2 : F_X6_in (-9 : Int32).toInt64 lw.toInt64 hg.toInt64 = 0
    · rw [if_pos c2]; show ¬ ra + 0 < 0; rw [z0]; exact hra
    · refine absurd ?_ c2
      rw [in_iff, l_ti, l_ti]
      left
      rw [show (-9 : Int32).toInt = -9 by decide]
      omega
-- X6_readsPin
theorem i_X6_readsPin_6 : ∀ w ∈ u_ws RX6 TX6 30, w ∈ wsX6_readsPin := by decide +kernel
theorem m_X6_readsPin_1 : Cond.fieldLink RX6 82 "WishPinsModel" "readPins" "I" ∈ wsX6_readsPin := List.mem_of_getElem? (i := 1) rfl
theorem m_X6_readsPin_2 : Cond.fieldLink RX6 75 "WishPinsModel" "readAt" "I" ∈ wsX6_readsPin := List.mem_of_getElem? (i := 2) rfl
theorem m_X6_readsPin_3 : Cond.fieldLink RX6 89 "WishPinsModel" "readYear" "I" ∈ wsX6_readsPin := List.mem_of_getElem? (i := 3) rfl
theorem m_X6_readsPin_4 : Cond.fieldLink RX6 19 "WishPinsModel" "readKind" "[I" ∈ wsX6_readsPin := List.mem_of_getElem? (i := 4) rfl
theorem m_X6_readsPin_5 : Cond.fieldLink RX6 22 "WishPinsModel" "readBend" "[I" ∈ wsX6_readsPin := List.mem_of_getElem? (i := 5) rfl
theorem m_X6_readsPin_6 : Cond.fieldLink RX6 25 "WishPinsModel" "readThrown" "[I" ∈ wsX6_readsPin := List.mem_of_getElem? (i := 6) rfl
def F_X6_readsPin_j143 (ra : Int32) (rp : Int32) (ry : Int32) (ka : Nat → Int32) (ba : Nat → Int32) (ta : Nat → Int32) (sh : Nat → Int32) (tf : Int32) (tn : Int32) (s2_110 : Int32) (s2_143 : Int32) : Int32 × Int32 × Int32 × Int32 × (Nat → Int32) × (Nat → Int32) × (Nat → Int32) :=
  (if (F_X6_figure (F_X6_figure ((ra + (1 : Int32)) + (1 : Int32)) sh tf tn (0 : Int32) (0 : Int32) (9 : Int32)).2 sh tf tn (F_X6_figure ((ra + (1 : Int32)) + (1 : Int32)) sh tf tn (0 : Int32) (0 : Int32) (9 : Int32)).1 (0 : Int32) (9 : Int32)).1 < 0 then ((0 : Int32), (ry + s2_110), (F_X6_figure (F_X6_figure ((ra + (1 : Int32)) + (1 : Int32)) sh tf tn (0 : Int32) (0 : Int32) (9 : Int32)).2 sh tf tn (F_X6_figure ((ra + (1 : Int32)) + (1 : Int32)) sh tf tn (0 : Int32) (0 : Int32) (9 : Int32)).1 (0 : Int32) (9 : Int32)).2, (rp + (1 : Int32)), (upd ka rp.toNatClampNeg s2_143), (upd ba rp.toNatClampNeg (F_X6_figure ((ra + (1 : Int32)) + (1 : Int32)) sh tf tn (0 : Int32) (0 : Int32) (9 : Int32)).1), (upd ta rp.toNatClampNeg (ry + s2_110))) else ((1 : Int32), (ry + s2_110), (F_X6_figure (F_X6_figure ((ra + (1 : Int32)) + (1 : Int32)) sh tf tn (0 : Int32) (0 : Int32) (9 : Int32)).2 sh tf tn (F_X6_figure ((ra + (1 : Int32)) + (1 : Int32)) sh tf tn (0 : Int32) (0 : Int32) (9 : Int32)).1 (0 : Int32) (9 : Int32)).2, (rp + (1 : Int32)), (upd ka rp.toNatClampNeg s2_143), (upd ba rp.toNatClampNeg (F_X6_figure ((ra + (1 : Int32)) + (1 : Int32)) sh tf tn (0 : Int32) (0 : Int32) (9 : Int32)).1), (upd ta rp.toNatClampNeg (ry + s2_110))))
def F_X6_readsPin_j110 (ra : Int32) (rp : Int32) (ry : Int32) (ka : Nat → Int32) (ba : Nat → Int32) (ta : Nat → Int32) (sh : Nat → Int32) (tf : Int32) (tn : Int32) (s2_110 : Int32) : Int32 × Int32 × Int32 × Int32 × (Nat → Int32) × (Nat → Int32) × (Nat → Int32) :=
  (if (F_X6_codeAt (ra + (1 : Int32)) sh tf tn) = (112 : Int32) then (F_X6_readsPin_j143 ra rp ry ka ba ta sh tf tn s2_110 (0 : Int32)) else (if (F_X6_codeAt (ra + (1 : Int32)) sh tf tn) = (99 : Int32) then (F_X6_readsPin_j143 ra rp ry ka ba ta sh tf tn s2_110 (1 : Int32)) else (F_X6_readsPin_j143 ra rp ry ka ba ta sh tf tn s2_110 (2 : Int32))))
def F_X6_readsPin_j59 (ra : Int32) (rp : Int32) (ry : Int32) (ka : Nat → Int32) (ba : Nat → Int32) (ta : Nat → Int32) (sh : Nat → Int32) (tf : Int32) (tn : Int32) : Int32 × Int32 × Int32 × Int32 × (Nat → Int32) × (Nat → Int32) × (Nat → Int32) :=
  (if 0 ≤ (F_X6_figure (F_X6_figure ((ra + (1 : Int32)) + (1 : Int32)) sh tf tn (0 : Int32) (0 : Int32) (9 : Int32)).2 sh tf tn (F_X6_figure ((ra + (1 : Int32)) + (1 : Int32)) sh tf tn (0 : Int32) (0 : Int32) (9 : Int32)).1 (0 : Int32) (9 : Int32)).1 then (F_X6_readsPin_j110 ra rp ry ka ba ta sh tf tn (F_X6_figure (F_X6_figure ((ra + (1 : Int32)) + (1 : Int32)) sh tf tn (0 : Int32) (0 : Int32) (9 : Int32)).2 sh tf tn (F_X6_figure ((ra + (1 : Int32)) + (1 : Int32)) sh tf tn (0 : Int32) (0 : Int32) (9 : Int32)).1 (0 : Int32) (9 : Int32)).1) else (F_X6_readsPin_j110 ra rp ry ka ba ta sh tf tn (0 : Int32)))
def F_X6_readsPin (ra : Int32) (rp : Int32) (ry : Int32) (ka : Nat → Int32) (ba : Nat → Int32) (ta : Nat → Int32) (sh : Nat → Int32) (tf : Int32) (tn : Int32) : Int32 × Int32 × Int32 × Int32 × (Nat → Int32) × (Nat → Int32) × (Nat → Int32) :=
  (if rp = (9 : Int32) then ((0 : Int32), ry, ra, rp, ka, ba, ta) else (if (F_X6_codeAt ra sh tf tn) = (59 : Int32) then (if (F_X6_codeAt (ra + (1 : Int32)) sh tf tn) = (112 : Int32) then (F_X6_readsPin_j59 ra rp ry ka ba ta sh tf tn) else (if (F_X6_codeAt (ra + (1 : Int32)) sh tf tn) = (99 : Int32) then (F_X6_readsPin_j59 ra rp ry ka ba ta sh tf tn) else (if (F_X6_codeAt (ra + (1 : Int32)) sh tf tn) = (100 : Int32) then (F_X6_readsPin_j59 ra rp ry ka ba ta sh tf tn) else ((0 : Int32), ry, (ra + (1 : Int32)), rp, ka, ba, ta)))) else ((0 : Int32), ry, ra, rp, ka, ba, ta)))
set_option maxHeartbeats 4000000 in
set_option maxRecDepth 100000 in
theorem c_X6_readsPin (l : Launch) (D : va_G) (cI cO : ClassId) (h6 : Nat) (q : Nat → Nat) (fl : Int32) (pn : Int32) (sl : Int32) (dr : Int32) (yn : Int32) (ra : Int32) (rp : Int32) (rs : Int32) (rd : Int32) (ry : Int32) (pk : Int32) (yk : Int32) (rg : Int32) (tc : Int32) (ka : Nat → Int32) (ba : Nat → Int32) (ta : Nat → Int32) (sh : Nat → Int32) (tf : Int32) (tn : Int32) (f0 : Nat) (n0 : Nat) (jr : Nat) (hf0 : tf = nI f0) (hn0 : tn = nI n0) (hfn : f0 + n0 ≤ 240) (hra : ¬ ra < 0) (hjr : rp = nI jr) (hj9 : jr ≤ 9) : zW l yX6_readsPin wsX6_readsPin ({ frames := 2, cells := 0, slots := 0, locals := 52 } : Room) D cI cO [.ref h6, .int tf, .int tn] [(h6, .inr (6, fM fl pn sl dr yn ra rp rs rd ry pk yk rg tc q)), ((q 13), .inl (cI, 9, .inl ka)), ((q 14), .inl (cI, 9, .inl ba)), ((q 15), .inl (cI, 9, .inl ta)), ((q 27), .inl (cI, 240, .inl sh))] [(h6, .inr (6, fM fl pn sl dr yn ((F_X6_readsPin ra rp ry ka ba ta sh tf tn).2.2.1) ((F_X6_readsPin ra rp ry ka ba ta sh tf tn).2.2.2.1) rs rd ((F_X6_readsPin ra rp ry ka ba ta sh tf tn).2.1) pk yk rg tc q)), ((q 13), .inl (cI, 9, .inl ((F_X6_readsPin ra rp ry ka ba ta sh tf tn).2.2.2.2.1))), ((q 14), .inl (cI, 9, .inl ((F_X6_readsPin ra rp ry ka ba ta sh tf tn).2.2.2.2.2.1))), ((q 15), .inl (cI, 9, .inl ((F_X6_readsPin ra rp ry ka ba ta sh tf tn).2.2.2.2.2.2))), ((q 27), .inl (cI, 240, .inl sh))] (some (.int ((F_X6_readsPin ra rp ry ka ba ta sh tf tn).1))) := by
  refine zW_of (nL := 6) (cc := cX6_readsPin) (ret := some .boolean) (lv := [(0, .ref h6), (1, .int tf), (2, .int tn)]) (by decide +kernel) rfl (Nat.le_of_ble_eq_true rfl) rfl (fun p e s m args below meth c C hr hlk => ?_)
  have hf := F_X6_readsPin.eq_1 ra rp ry ka ba ta sh tf tn
  refine z_aload_n C dX6_readsPin_0 rfl 0 rfl ?_
  refine z_get (T := TX6) (v := .int rp) C i_X6_readsPin_6 0 rfl rfl 9 (by decide) m_X6_readsPin_1 rfl rfl dX6_readsPin_1 ?_
  refine z_bipush (v := (9 : Int32)) C dX6_readsPin_4 (by decide) ?_
  refine z_icmp_eq (tgt := 20) C dX6_readsPin_6 (by decide) (fun c6 => ?_) (fun c6 => ?_)
  · rw [if_pos c6] at hf
    refine z_iconst (v := (0 : Int32)) C dX6_readsPin_20 (by decide) ?_
    exact z_zretW C hr hlk rfl (by rw [hf]) (by rw [hf]) dX6_readsPin_21
  · rw [if_neg c6] at hf
    refine z_aload_n C dX6_readsPin_9 rfl 0 rfl ?_
    refine z_iload_n C dX6_readsPin_10 rfl 1 rfl ?_
    refine z_iload_n C dX6_readsPin_11 rfl 2 rfl ?_
    refine z_cVR (As := [.int tf, .int tn]) C (c_X6_codeAt l D cI cO h6 q fl pn sl dr yn ra rp rs rd ry pk yk rg tc sh tf tn f0 n0 hf0 hn0 hfn hra) (cwV 2 C.2.2.2.2.1 gX6_readsPin_X6_codeAt rfl rfl rfl hdV_X6_codeAt ⟨Nat.le_of_ble_eq_true rfl, Nat.le_of_ble_eq_true rfl⟩) [0, 4] rfl rfl 0 rfl rfl rfl _ rfl (Nat.le_of_ble_eq_true rfl) ⟨Nat.zero_le _, Nat.zero_le _⟩ dX6_readsPin_12 ?_
    generalize hu12 : (F_X6_codeAt ra sh tf tn) = u12 at hf ⊢
    refine z_bipush (v := (59 : Int32)) C dX6_readsPin_15 (by decide) ?_
    refine z_icmp_eq (tgt := 22) C dX6_readsPin_17 (by decide) (fun c17 => ?_) (fun c17 => ?_)
    · rw [if_pos c17] at hf
      have b17 := c17
      rw [← hu12] at c17
      refine z_aload_n C dX6_readsPin_22 rfl 0 rfl ?_
      refine z_dup C dX6_readsPin_23 rfl ?_
      refine z_get (T := TX6) (v := .int ra) C i_X6_readsPin_6 0 rfl rfl 8 (by decide) m_X6_readsPin_2 rfl rfl dX6_readsPin_24 ?_
      refine z_iconst (v := (1 : Int32)) C dX6_readsPin_27 (by decide) ?_
      refine z_iadd C dX6_readsPin_28 ?_
      refine z_put (T := TX6) (ty := .int) C [(h6, .inr (6, fM fl pn sl dr yn (ra + (1 : Int32)) rp rs rd ry pk yk rg tc q)), ((q 13), .inl (cI, 9, .inl ka)), ((q 14), .inl (cI, 9, .inl ba)), ((q 15), .inl (cI, 9, .inl ta)), ((q 27), .inl (cI, 240, .inl sh))] i_X6_readsPin_6 tyX6 tyX6_ok nmX6 0 rfl rfl 8 (by decide) m_X6_readsPin_2 rfl rfl (by decide +kernel) rfl rfl (Nat.le_of_ble_eq_true rfl) dX6_readsPin_29 rfl ?_
      refine z_aload_n C dX6_readsPin_32 rfl 0 rfl ?_
      refine z_iload_n C dX6_readsPin_33 rfl 1 rfl ?_
      refine z_iload_n C dX6_readsPin_34 rfl 2 rfl ?_
      refine z_cVR (As := [.int tf, .int tn]) C (c_X6_codeAt l D cI cO h6 q fl pn sl dr yn (ra + (1 : Int32)) rp rs rd ry pk yk rg tc sh tf tn f0 n0 (by subst hu12; exact hf0) (by subst hu12; exact hn0) (by subst hu12; exact hfn) (by subst hu12; exact (z_inc hn0 (by omega) hra (code_lt c17 (by decide))))) (cwV 2 C.2.2.2.2.1 gX6_readsPin_X6_codeAt rfl rfl rfl hdV_X6_codeAt ⟨Nat.le_of_ble_eq_true rfl, Nat.le_of_ble_eq_true rfl⟩) [0, 4] rfl rfl 0 rfl rfl rfl _ rfl (Nat.le_of_ble_eq_true rfl) ⟨Nat.zero_le _, Nat.zero_le _⟩ dX6_readsPin_35 ?_
      generalize hu35 : (F_X6_codeAt (ra + (1 : Int32)) sh tf tn) = u35 at hf ⊢
      refine z_istore_n C [(0, .ref h6), (1, .int tf), (2, .int tn), (3, .int u35)] dX6_readsPin_38 rfl (by decide) [1, 2, 3, 0] rfl ?_
      refine z_iload_n C dX6_readsPin_39 rfl 3 rfl ?_
      refine z_bipush (v := (112 : Int32)) C dX6_readsPin_40 (by decide) ?_
      have J59 : ∀ (hcd : ¬ tn ≤ ra + (1 : Int32)), F_X6_readsPin ra rp ry ka ba ta sh tf tn = F_X6_readsPin_j59 ra rp ry ka ba ta sh tf tn → zG p l e ({ frames := 2, cells := 0, slots := 0, locals := 52 } : Room) s m args below meth c D (zA [(h6, .inr (6, fM fl pn sl dr yn ra rp rs rd ry pk yk rg tc q)), ((q 13), .inl (cI, 9, .inl ka)), ((q 14), .inl (cI, 9, .inl ba)), ((q 15), .inl (cI, 9, .inl ta)), ((q 27), .inl (cI, 240, .inl sh))]) (zXw (zA [(h6, .inr (6, fM fl pn sl dr yn ra rp rs rd ry pk yk rg tc q)), ((q 13), .inl (cI, 9, .inl ka)), ((q 14), .inl (cI, 9, .inl ba)), ((q 15), .inl (cI, 9, .inl ta)), ((q 27), .inl (cI, 240, .inl sh))]) s.heap) 6 0 0 (MQ below (zQw D [(h6, .inr (6, fM fl pn sl dr yn ((F_X6_readsPin ra rp ry ka ba ta sh tf tn).2.2.1) ((F_X6_readsPin ra rp ry ka ba ta sh tf tn).2.2.2.1) rs rd ((F_X6_readsPin ra rp ry ka ba ta sh tf tn).2.1) pk yk rg tc q)), ((q 13), .inl (cI, 9, .inl ((F_X6_readsPin ra rp ry ka ba ta sh tf tn).2.2.2.2.1))), ((q 14), .inl (cI, 9, .inl ((F_X6_readsPin ra rp ry ka ba ta sh tf tn).2.2.2.2.2.1))), ((q 15), .inl (cI, 9, .inl ((F_X6_readsPin ra rp ry ka ba ta sh tf tn).2.2.2.2.2.2))), ((q 27), .inl (cI, 240, .inl sh))] (zA [(h6, .inr (6, fM fl pn sl dr yn ra rp rs rd ry pk yk rg tc q)), ((q 13), .inl (cI, 9, .inl ka)), ((q 14), .inl (cI, 9, .inl ba)), ((q 15), .inl (cI, 9, .inl ta)), ((q 27), .inl (cI, 240, .inl sh))]) (some (.int ((F_X6_readsPin ra rp ry ka ba ta sh tf tn).1)))) args s 0 0 (zA [(h6, .inr (6, fM fl pn sl dr yn ra rp rs rd ry pk yk rg tc q)), ((q 13), .inl (cI, 9, .inl ka)), ((q 14), .inl (cI, 9, .inl ba)), ((q 15), .inl (cI, 9, .inl ta)), ((q 27), .inl (cI, 240, .inl sh))])) 59 [(0, .ref h6), (1, .int tf), (2, .int tn), (3, .int u35)] [] [(h6, .inr (6, fM fl pn sl dr yn (ra + (1 : Int32)) rp rs rd ry pk yk rg tc q)), ((q 13), .inl (cI, 9, .inl ka)), ((q 14), .inl (cI, 9, .inl ba)), ((q 15), .inl (cI, 9, .inl ta)), ((q 27), .inl (cI, 240, .inl sh))] := by
        intro hcd hf
        rw [F_X6_readsPin_j59] at hf
        skip
        refine z_aload_n C dX6_readsPin_59 rfl 0 rfl ?_
        refine z_dup C dX6_readsPin_60 rfl ?_
        refine z_get (T := TX6) (v := .int (ra + (1 : Int32))) C i_X6_readsPin_6 0 rfl rfl 8 (by decide) m_X6_readsPin_2 rfl rfl dX6_readsPin_61 ?_
        refine z_iconst (v := (1 : Int32)) C dX6_readsPin_64 (by decide) ?_
        refine z_iadd C dX6_readsPin_65 ?_
        refine z_put (T := TX6) (ty := .int) C [(h6, .inr (6, fM fl pn sl dr yn ((ra + (1 : Int32)) + (1 : Int32)) rp rs rd ry pk yk rg tc q)), ((q 13), .inl (cI, 9, .inl ka)), ((q 14), .inl (cI, 9, .inl ba)), ((q 15), .inl (cI, 9, .inl ta)), ((q 27), .inl (cI, 240, .inl sh))] i_X6_readsPin_6 tyX6 tyX6_ok nmX6 0 rfl rfl 8 (by decide) m_X6_readsPin_2 rfl rfl (by decide +kernel) rfl rfl (Nat.le_of_ble_eq_true rfl) dX6_readsPin_66 rfl ?_
        refine z_aload_n C dX6_readsPin_69 rfl 0 rfl ?_
        refine z_iload_n C dX6_readsPin_70 rfl 1 rfl ?_
        refine z_iload_n C dX6_readsPin_71 rfl 2 rfl ?_
        refine z_iconst (v := (0 : Int32)) C dX6_readsPin_72 (by decide) ?_
        refine z_iconst (v := (0 : Int32)) C dX6_readsPin_73 (by decide) ?_
        refine z_bipush (v := (9 : Int32)) C dX6_readsPin_74 (by decide) ?_
        refine z_cVW (As := [.int tf, .int tn, .int (0 : Int32), .int (0 : Int32), .int (9 : Int32)]) C (c_X6_figure l D cI cO h6 q fl pn sl dr yn ((ra + (1 : Int32)) + (1 : Int32)) rp rs rd ry pk yk rg tc sh tf tn (0 : Int32) (0 : Int32) (9 : Int32) f0 n0 (by subst hu35 hu12; exact hf0) (by subst hu35 hu12; exact hn0) (by subst hu35 hu12; exact hfn) (by subst hu35 hu12; exact (z_inc hn0 (by omega) (z_inc hn0 (by omega) hra (code_lt c17 (by decide))) hcd))) (cwV 5 C.2.2.2.2.1 gX6_readsPin_X6_figure rfl rfl rfl hdV_X6_figure ⟨Nat.le_of_ble_eq_true rfl, Nat.le_of_ble_eq_true rfl⟩) [(h6, .inr (6, fM fl pn sl dr yn ((F_X6_figure ((ra + (1 : Int32)) + (1 : Int32)) sh tf tn (0 : Int32) (0 : Int32) (9 : Int32)).2) rp rs rd ry pk yk rg tc q)), ((q 13), .inl (cI, 9, .inl ka)), ((q 14), .inl (cI, 9, .inl ba)), ((q 15), .inl (cI, 9, .inl ta)), ((q 27), .inl (cI, 240, .inl sh))] [0, 4] rfl rfl (Eq.refl [h6, (q 27)]) rfl 0 rfl rfl rfl _ rfl (Nat.le_of_ble_eq_true rfl) ⟨Nat.zero_le _, Nat.zero_le _⟩ dX6_readsPin_76 ?_
        generalize hu76 : (F_X6_figure ((ra + (1 : Int32)) + (1 : Int32)) sh tf tn (0 : Int32) (0 : Int32) (9 : Int32)) = u76 at hf ⊢
        refine z_istore C [(0, .ref h6), (1, .int tf), (2, .int tn), (3, .int u35), (4, .int u76.1)] dX6_readsPin_79 (by decide) [1, 2, 3, 4, 0] rfl ?_
        refine z_aload_n C dX6_readsPin_81 rfl 0 rfl ?_
        refine z_iload_n C dX6_readsPin_82 rfl 1 rfl ?_
        refine z_iload_n C dX6_readsPin_83 rfl 2 rfl ?_
        refine z_iload C dX6_readsPin_84 4 rfl ?_
        refine z_iconst (v := (0 : Int32)) C dX6_readsPin_86 (by decide) ?_
        refine z_bipush (v := (9 : Int32)) C dX6_readsPin_87 (by decide) ?_
        refine z_cVW (As := [.int tf, .int tn, .int u76.1, .int (0 : Int32), .int (9 : Int32)]) C (c_X6_figure l D cI cO h6 q fl pn sl dr yn u76.2 rp rs rd ry pk yk rg tc sh tf tn u76.1 (0 : Int32) (9 : Int32) f0 n0 (by subst hu76 hu35 hu12; exact hf0) (by subst hu76 hu35 hu12; exact hn0) (by subst hu76 hu35 hu12; exact hfn) (by subst hu76 hu35 hu12; exact (figure_ra hn0 (by omega) (by decide) (z_inc hn0 (by omega) (z_inc hn0 (by omega) hra (code_lt c17 (by decide))) hcd)))) (cwV 5 C.2.2.2.2.1 gX6_readsPin_X6_figure rfl rfl rfl hdV_X6_figure ⟨Nat.le_of_ble_eq_true rfl, Nat.le_of_ble_eq_true rfl⟩) [(h6, .inr (6, fM fl pn sl dr yn ((F_X6_figure u76.2 sh tf tn u76.1 (0 : Int32) (9 : Int32)).2) rp rs rd ry pk yk rg tc q)), ((q 13), .inl (cI, 9, .inl ka)), ((q 14), .inl (cI, 9, .inl ba)), ((q 15), .inl (cI, 9, .inl ta)), ((q 27), .inl (cI, 240, .inl sh))] [0, 4] rfl rfl (Eq.refl [h6, (q 27)]) rfl 0 rfl rfl rfl _ rfl (Nat.le_of_ble_eq_true rfl) ⟨Nat.zero_le _, Nat.zero_le _⟩ dX6_readsPin_89 ?_
        generalize hu89 : (F_X6_figure u76.2 sh tf tn u76.1 (0 : Int32) (9 : Int32)) = u89 at hf ⊢
        refine z_istore C [(0, .ref h6), (1, .int tf), (2, .int tn), (3, .int u35), (4, .int u76.1), (5, .int u89.1)] dX6_readsPin_92 (by decide) [1, 2, 3, 4, 5, 0] rfl ?_
        refine z_aload_n C dX6_readsPin_94 rfl 0 rfl ?_
        refine z_dup C dX6_readsPin_95 rfl ?_
        refine z_get (T := TX6) (v := .int ry) C i_X6_readsPin_6 0 rfl rfl 12 (by decide) m_X6_readsPin_3 rfl rfl dX6_readsPin_96 ?_
        refine z_iload C dX6_readsPin_99 5 rfl ?_
        have J110 : ∀ (s2_110 : Int32), F_X6_readsPin ra rp ry ka ba ta sh tf tn = F_X6_readsPin_j110 ra rp ry ka ba ta sh tf tn s2_110 → zG p l e ({ frames := 2, cells := 0, slots := 0, locals := 52 } : Room) s m args below meth c D (zA [(h6, .inr (6, fM fl pn sl dr yn ra rp rs rd ry pk yk rg tc q)), ((q 13), .inl (cI, 9, .inl ka)), ((q 14), .inl (cI, 9, .inl ba)), ((q 15), .inl (cI, 9, .inl ta)), ((q 27), .inl (cI, 240, .inl sh))]) (zXw (zA [(h6, .inr (6, fM fl pn sl dr yn ra rp rs rd ry pk yk rg tc q)), ((q 13), .inl (cI, 9, .inl ka)), ((q 14), .inl (cI, 9, .inl ba)), ((q 15), .inl (cI, 9, .inl ta)), ((q 27), .inl (cI, 240, .inl sh))]) s.heap) 6 0 0 (MQ below (zQw D [(h6, .inr (6, fM fl pn sl dr yn ((F_X6_readsPin ra rp ry ka ba ta sh tf tn).2.2.1) ((F_X6_readsPin ra rp ry ka ba ta sh tf tn).2.2.2.1) rs rd ((F_X6_readsPin ra rp ry ka ba ta sh tf tn).2.1) pk yk rg tc q)), ((q 13), .inl (cI, 9, .inl ((F_X6_readsPin ra rp ry ka ba ta sh tf tn).2.2.2.2.1))), ((q 14), .inl (cI, 9, .inl ((F_X6_readsPin ra rp ry ka ba ta sh tf tn).2.2.2.2.2.1))), ((q 15), .inl (cI, 9, .inl ((F_X6_readsPin ra rp ry ka ba ta sh tf tn).2.2.2.2.2.2))), ((q 27), .inl (cI, 240, .inl sh))] (zA [(h6, .inr (6, fM fl pn sl dr yn ra rp rs rd ry pk yk rg tc q)), ((q 13), .inl (cI, 9, .inl ka)), ((q 14), .inl (cI, 9, .inl ba)), ((q 15), .inl (cI, 9, .inl ta)), ((q 27), .inl (cI, 240, .inl sh))]) (some (.int ((F_X6_readsPin ra rp ry ka ba ta sh tf tn).1)))) args s 0 0 (zA [(h6, .inr (6, fM fl pn sl dr yn ra rp rs rd ry pk yk rg tc q)), ((q 13), .inl (cI, 9, .inl ka)), ((q 14), .inl (cI, 9, .inl ba)), ((q 15), .inl (cI, 9, .inl ta)), ((q 27), .inl (cI, 240, .inl sh))])) 110 [(0, .ref h6), (1, .int tf), (2, .int tn), (3, .int u35), (4, .int u76.1), (5, .int u89.1)] [.int s2_110, .int ry, .ref h6] [(h6, .inr (6, fM fl pn sl dr yn u89.2 rp rs rd ry pk yk rg tc q)), ((q 13), .inl (cI, 9, .inl ka)), ((q 14), .inl (cI, 9, .inl ba)), ((q 15), .inl (cI, 9, .inl ta)), ((q 27), .inl (cI, 240, .inl sh))] := by
          intro s2_110 hf
          rw [F_X6_readsPin_j110] at hf
          simp only [hu35] at hf
          refine z_iadd C dX6_readsPin_110 ?_
          refine z_put (T := TX6) (ty := .int) C [(h6, .inr (6, fM fl pn sl dr yn u89.2 rp rs rd (ry + s2_110) pk yk rg tc q)), ((q 13), .inl (cI, 9, .inl ka)), ((q 14), .inl (cI, 9, .inl ba)), ((q 15), .inl (cI, 9, .inl ta)), ((q 27), .inl (cI, 240, .inl sh))] i_X6_readsPin_6 tyX6 tyX6_ok nmX6 0 rfl rfl 12 (by decide) m_X6_readsPin_3 rfl rfl (by decide +kernel) rfl rfl (Nat.le_of_ble_eq_true rfl) dX6_readsPin_111 rfl ?_
          refine z_aload_n C dX6_readsPin_114 rfl 0 rfl ?_
          refine z_get (T := TX6) (v := .ref (q 13)) C i_X6_readsPin_6 0 rfl rfl 13 (by decide) m_X6_readsPin_4 rfl rfl dX6_readsPin_115 ?_
          refine z_aload_n C dX6_readsPin_118 rfl 0 rfl ?_
          refine z_get (T := TX6) (v := .int rp) C i_X6_readsPin_6 0 rfl rfl 9 (by decide) m_X6_readsPin_1 rfl rfl dX6_readsPin_119 ?_
          refine z_iload_n C dX6_readsPin_122 rfl 3 rfl ?_
          refine z_bipush (v := (112 : Int32)) C dX6_readsPin_123 (by decide) ?_
          have J143 : ∀ (s2_143 : Int32), F_X6_readsPin ra rp ry ka ba ta sh tf tn = F_X6_readsPin_j143 ra rp ry ka ba ta sh tf tn s2_110 s2_143 → zG p l e ({ frames := 2, cells := 0, slots := 0, locals := 52 } : Room) s m args below meth c D (zA [(h6, .inr (6, fM fl pn sl dr yn ra rp rs rd ry pk yk rg tc q)), ((q 13), .inl (cI, 9, .inl ka)), ((q 14), .inl (cI, 9, .inl ba)), ((q 15), .inl (cI, 9, .inl ta)), ((q 27), .inl (cI, 240, .inl sh))]) (zXw (zA [(h6, .inr (6, fM fl pn sl dr yn ra rp rs rd ry pk yk rg tc q)), ((q 13), .inl (cI, 9, .inl ka)), ((q 14), .inl (cI, 9, .inl ba)), ((q 15), .inl (cI, 9, .inl ta)), ((q 27), .inl (cI, 240, .inl sh))]) s.heap) 6 0 0 (MQ below (zQw D [(h6, .inr (6, fM fl pn sl dr yn ((F_X6_readsPin ra rp ry ka ba ta sh tf tn).2.2.1) ((F_X6_readsPin ra rp ry ka ba ta sh tf tn).2.2.2.1) rs rd ((F_X6_readsPin ra rp ry ka ba ta sh tf tn).2.1) pk yk rg tc q)), ((q 13), .inl (cI, 9, .inl ((F_X6_readsPin ra rp ry ka ba ta sh tf tn).2.2.2.2.1))), ((q 14), .inl (cI, 9, .inl ((F_X6_readsPin ra rp ry ka ba ta sh tf tn).2.2.2.2.2.1))), ((q 15), .inl (cI, 9, .inl ((F_X6_readsPin ra rp ry ka ba ta sh tf tn).2.2.2.2.2.2))), ((q 27), .inl (cI, 240, .inl sh))] (zA [(h6, .inr (6, fM fl pn sl dr yn ra rp rs rd ry pk yk rg tc q)), ((q 13), .inl (cI, 9, .inl ka)), ((q 14), .inl (cI, 9, .inl ba)), ((q 15), .inl (cI, 9, .inl ta)), ((q 27), .inl (cI, 240, .inl sh))]) (some (.int ((F_X6_readsPin ra rp ry ka ba ta sh tf tn).1)))) args s 0 0 (zA [(h6, .inr (6, fM fl pn sl dr yn ra rp rs rd ry pk yk rg tc q)), ((q 13), .inl (cI, 9, .inl ka)), ((q 14), .inl (cI, 9, .inl ba)), ((q 15), .inl (cI, 9, .inl ta)), ((q 27), .inl (cI, 240, .inl sh))])) 143 [(0, .ref h6), (1, .int tf), (2, .int tn), (3, .int u35), (4, .int u76.1), (5, .int u89.1)] [.int s2_143, .int rp, .ref (q 13)] [(h6, .inr (6, fM fl pn sl dr yn u89.2 rp rs rd (ry + s2_110) pk yk rg tc q)), ((q 13), .inl (cI, 9, .inl ka)), ((q 14), .inl (cI, 9, .inl ba)), ((q 15), .inl (cI, 9, .inl ta)), ((q 27), .inl (cI, 240, .inl sh))] := by
            intro s2_143 hf
            rw [F_X6_readsPin_j143] at hf
            simp only [hu76, hu89] at hf
            refine z_ast C [(h6, .inr (6, fM fl pn sl dr yn u89.2 rp rs rd (ry + s2_110) pk yk rg tc q)), ((q 13), .inl (cI, 9, .inl (upd ka rp.toNatClampNeg s2_143))), ((q 14), .inl (cI, 9, .inl ba)), ((q 15), .inl (cI, 9, .inl ta)), ((q 27), .inl (cI, 240, .inl sh))] 1 rfl (by subst hu89 hu76 hu35 hu12; exact (z_ix9 hjr (z_lt9 hjr hj9 c6))) dX6_readsPin_143 rfl ?_
            refine z_aload_n C dX6_readsPin_144 rfl 0 rfl ?_
            refine z_get (T := TX6) (v := .ref (q 14)) C i_X6_readsPin_6 0 rfl rfl 14 (by decide) m_X6_readsPin_5 rfl rfl dX6_readsPin_145 ?_
            refine z_aload_n C dX6_readsPin_148 rfl 0 rfl ?_
            refine z_get (T := TX6) (v := .int rp) C i_X6_readsPin_6 0 rfl rfl 9 (by decide) m_X6_readsPin_1 rfl rfl dX6_readsPin_149 ?_
            refine z_iload C dX6_readsPin_152 4 rfl ?_
            refine z_ast C [(h6, .inr (6, fM fl pn sl dr yn u89.2 rp rs rd (ry + s2_110) pk yk rg tc q)), ((q 13), .inl (cI, 9, .inl (upd ka rp.toNatClampNeg s2_143))), ((q 14), .inl (cI, 9, .inl (upd ba rp.toNatClampNeg u76.1))), ((q 15), .inl (cI, 9, .inl ta)), ((q 27), .inl (cI, 240, .inl sh))] 2 rfl (by subst hu89 hu76 hu35 hu12; exact (z_ix9 hjr (z_lt9 hjr hj9 c6))) dX6_readsPin_154 rfl ?_
            refine z_aload_n C dX6_readsPin_155 rfl 0 rfl ?_
            refine z_get (T := TX6) (v := .ref (q 15)) C i_X6_readsPin_6 0 rfl rfl 15 (by decide) m_X6_readsPin_6 rfl rfl dX6_readsPin_156 ?_
            refine z_aload_n C dX6_readsPin_159 rfl 0 rfl ?_
            refine z_get (T := TX6) (v := .int rp) C i_X6_readsPin_6 0 rfl rfl 9 (by decide) m_X6_readsPin_1 rfl rfl dX6_readsPin_160 ?_
            refine z_aload_n C dX6_readsPin_163 rfl 0 rfl ?_
            refine z_get (T := TX6) (v := .int (ry + s2_110)) C i_X6_readsPin_6 0 rfl rfl 12 (by decide) m_X6_readsPin_3 rfl rfl dX6_readsPin_164 ?_
            refine z_ast C [(h6, .inr (6, fM fl pn sl dr yn u89.2 rp rs rd (ry + s2_110) pk yk rg tc q)), ((q 13), .inl (cI, 9, .inl (upd ka rp.toNatClampNeg s2_143))), ((q 14), .inl (cI, 9, .inl (upd ba rp.toNatClampNeg u76.1))), ((q 15), .inl (cI, 9, .inl (upd ta rp.toNatClampNeg (ry + s2_110)))), ((q 27), .inl (cI, 240, .inl sh))] 3 rfl (by subst hu89 hu76 hu35 hu12; exact (z_ix9 hjr (z_lt9 hjr hj9 c6))) dX6_readsPin_167 rfl ?_
            refine z_aload_n C dX6_readsPin_168 rfl 0 rfl ?_
            refine z_dup C dX6_readsPin_169 rfl ?_
            refine z_get (T := TX6) (v := .int rp) C i_X6_readsPin_6 0 rfl rfl 9 (by decide) m_X6_readsPin_1 rfl rfl dX6_readsPin_170 ?_
            refine z_iconst (v := (1 : Int32)) C dX6_readsPin_173 (by decide) ?_
            refine z_iadd C dX6_readsPin_174 ?_
            refine z_put (T := TX6) (ty := .int) C [(h6, .inr (6, fM fl pn sl dr yn u89.2 (rp + (1 : Int32)) rs rd (ry + s2_110) pk yk rg tc q)), ((q 13), .inl (cI, 9, .inl (upd ka rp.toNatClampNeg s2_143))), ((q 14), .inl (cI, 9, .inl (upd ba rp.toNatClampNeg u76.1))), ((q 15), .inl (cI, 9, .inl (upd ta rp.toNatClampNeg (ry + s2_110)))), ((q 27), .inl (cI, 240, .inl sh))] i_X6_readsPin_6 tyX6 tyX6_ok nmX6 0 rfl rfl 9 (by decide) m_X6_readsPin_1 rfl rfl (by decide +kernel) rfl rfl (Nat.le_of_ble_eq_true rfl) dX6_readsPin_175 rfl ?_
            refine z_iload C dX6_readsPin_178 5 rfl ?_
            refine z_if_lt (tgt := 187) C dX6_readsPin_180 (by decide) (fun c180 => ?_) (fun c180 => ?_)
            · rw [if_pos c180] at hf
              have b180 := c180
              rw [← hu89] at c180
              refine z_iconst (v := (0 : Int32)) C dX6_readsPin_187 (by decide) ?_
              exact z_zretW C hr hlk rfl (by rw [hf]) (by rw [hf]) dX6_readsPin_188
            · rw [if_neg c180] at hf
              have b180 := c180
              rw [← hu89] at c180
              refine z_iconst (v := (1 : Int32)) C dX6_readsPin_183 (by decide) ?_
              refine z_goto (tgt := 188) C dX6_readsPin_184 (by decide) ?_
              exact z_zretW C hr hlk rfl (by rw [hf]) (by rw [hf]) dX6_readsPin_188
          refine z_icmp_ne (tgt := 132) C dX6_readsPin_125 (by decide) (fun c125 => ?_) (fun c125 => ?_)
          · rw [if_neg c125] at hf
            have b125 := c125
            rw [← hu35] at c125
            refine z_iload_n C dX6_readsPin_132 rfl 3 rfl ?_
            refine z_bipush (v := (99 : Int32)) C dX6_readsPin_133 (by decide) ?_
            refine z_icmp_ne (tgt := 142) C dX6_readsPin_135 (by decide) (fun c135 => ?_) (fun c135 => ?_)
            · rw [if_neg c135] at hf
              have b135 := c135
              rw [← hu35] at c135
              refine z_iconst (v := (2 : Int32)) C dX6_readsPin_142 (by decide) ?_
              exact J143 (2 : Int32)  hf
            · rw [if_pos c135] at hf
              have b135 := c135
              rw [← hu35] at c135
              refine z_iconst (v := (1 : Int32)) C dX6_readsPin_138 (by decide) ?_
              refine z_goto (tgt := 143) C dX6_readsPin_139 (by decide) ?_
              exact J143 (1 : Int32)  hf
          · rw [if_pos c125] at hf
            have b125 := c125
            rw [← hu35] at c125
            refine z_iconst (v := (0 : Int32)) C dX6_readsPin_128 (by decide) ?_
            refine z_goto (tgt := 143) C dX6_readsPin_129 (by decide) ?_
            exact J143 (0 : Int32)  hf
        refine z_if_ge (tgt := 108) C dX6_readsPin_101 (by decide) (fun c101 => ?_) (fun c101 => ?_)
        · rw [if_pos c101] at hf
          have b101 := c101
          rw [← hu89] at c101
          refine z_iload C dX6_readsPin_108 5 rfl ?_
          exact J110 u89.1  hf
        · rw [if_neg c101] at hf
          have b101 := c101
          rw [← hu89] at c101
          refine z_iconst (v := (0 : Int32)) C dX6_readsPin_104 (by decide) ?_
          refine z_goto (tgt := 110) C dX6_readsPin_105 (by decide) ?_
          exact J110 (0 : Int32)  hf
      refine z_icmp_eq (tgt := 59) C dX6_readsPin_42 (by decide) (fun c42 => ?_) (fun c42 => ?_)
      · rw [if_pos c42] at hf
        have b42 := c42
        rw [← hu35] at c42
        exact J59  (by subst hu35 hu12; exact (by first | exact code_lt c42 (by decide) | exact code_lt c48 (by decide) | exact code_lt c54 (by decide))) hf
      · rw [if_neg c42] at hf
        have b42 := c42
        rw [← hu35] at c42
        refine z_iload_n C dX6_readsPin_45 rfl 3 rfl ?_
        refine z_bipush (v := (99 : Int32)) C dX6_readsPin_46 (by decide) ?_
        refine z_icmp_eq (tgt := 59) C dX6_readsPin_48 (by decide) (fun c48 => ?_) (fun c48 => ?_)
        · rw [if_pos c48] at hf
          have b48 := c48
          rw [← hu35] at c48
          exact J59  (by subst hu35 hu12; exact (by first | exact code_lt c42 (by decide) | exact code_lt c48 (by decide) | exact code_lt c54 (by decide))) hf
        · rw [if_neg c48] at hf
          have b48 := c48
          rw [← hu35] at c48
          refine z_iload_n C dX6_readsPin_51 rfl 3 rfl ?_
          refine z_bipush (v := (100 : Int32)) C dX6_readsPin_52 (by decide) ?_
          refine z_icmp_eq (tgt := 59) C dX6_readsPin_54 (by decide) (fun c54 => ?_) (fun c54 => ?_)
          · rw [if_pos c54] at hf
            have b54 := c54
            rw [← hu35] at c54
            exact J59  (by subst hu35 hu12; exact (by first | exact code_lt c42 (by decide) | exact code_lt c48 (by decide) | exact code_lt c54 (by decide))) hf
          · rw [if_neg c54] at hf
            have b54 := c54
            rw [← hu35] at c54
            refine z_iconst (v := (0 : Int32)) C dX6_readsPin_57 (by decide) ?_
            exact z_zretW C hr hlk rfl (by rw [hf]) (by rw [hf]) dX6_readsPin_58
    · rw [if_neg c17] at hf
      have b17 := c17
      rw [← hu12] at c17
      refine z_iconst (v := (0 : Int32)) C dX6_readsPin_20 (by decide) ?_
      exact z_zretW C hr hlk rfl (by rw [hf]) (by rw [hf]) dX6_readsPin_21
theorem rp_j143 {ra rp ry : Int32} {ka ba ta sh : Nat → Int32} {tf tn : Int32} {s2 s3 : Int32} : (F_X6_readsPin_j143 ra rp ry ka ba ta sh tf tn s2 s3).2.2.1 = (F_X6_figure (F_X6_figure ((ra + (1 : Int32)) + (1 : Int32)) sh tf tn (0 : Int32) (0 : Int32) (9 : Int32)).2 sh tf tn (F_X6_figure ((ra + (1 : Int32)) + (1 : Int32)) sh tf tn (0 : Int32) (0 : Int32) (9 : Int32)).1 (0 : Int32) (9 : Int32)).2 ∧ (F_X6_readsPin_j143 ra rp ry ka ba ta sh tf tn s2 s3).2.2.2.1 = rp + 1 := by
  rw [F_X6_readsPin_j143]
  split <;> (refine ⟨?_, ?_⟩ <;> dsimp only)
theorem rp_j110 {ra rp ry : Int32} {ka ba ta sh : Nat → Int32} {tf tn : Int32} {s2 : Int32} : (F_X6_readsPin_j110 ra rp ry ka ba ta sh tf tn s2).2.2.1 = (F_X6_figure (F_X6_figure ((ra + (1 : Int32)) + (1 : Int32)) sh tf tn (0 : Int32) (0 : Int32) (9 : Int32)).2 sh tf tn (F_X6_figure ((ra + (1 : Int32)) + (1 : Int32)) sh tf tn (0 : Int32) (0 : Int32) (9 : Int32)).1 (0 : Int32) (9 : Int32)).2 ∧ (F_X6_readsPin_j110 ra rp ry ka ba ta sh tf tn s2).2.2.2.1 = rp + 1 := by
  rw [F_X6_readsPin_j110]
  split
  · exact rp_j143
  · split <;> exact rp_j143
theorem rp_j59 {ra rp ry : Int32} {ka ba ta sh : Nat → Int32} {tf tn : Int32} : (F_X6_readsPin_j59 ra rp ry ka ba ta sh tf tn).2.2.1 = (F_X6_figure (F_X6_figure ((ra + (1 : Int32)) + (1 : Int32)) sh tf tn (0 : Int32) (0 : Int32) (9 : Int32)).2 sh tf tn (F_X6_figure ((ra + (1 : Int32)) + (1 : Int32)) sh tf tn (0 : Int32) (0 : Int32) (9 : Int32)).1 (0 : Int32) (9 : Int32)).2 ∧ (F_X6_readsPin_j59 ra rp ry ka ba ta sh tf tn).2.2.2.1 = rp + 1 := by
  rw [F_X6_readsPin_j59]
  split <;> exact rp_j110
theorem readsPin_ok {ra rp ry : Int32} {ka ba ta sh : Nat → Int32} {tf tn : Int32} {n0 jr : Nat} (hn0 : tn = nI n0) (hb : n0 ≤ 240) (hra : ¬ ra < 0) (hjr : rp = nI jr) (hj9 : jr ≤ 9) : ¬ (F_X6_readsPin ra rp ry ka ba ta sh tf tn).2.2.1 < 0 ∧ ∃ j : Nat, (F_X6_readsPin ra rp ry ka ba ta sh tf tn).2.2.2.1 = nI j ∧ j ≤ 9 ∧ (¬ (F_X6_readsPin ra rp ry ka ba ta sh tf tn).1 = 0 → j = jr + 1) := by
  rw [F_X6_readsPin]
  by_cases c1 : rp = 9
  · rw [if_pos c1]; exact ⟨hra, jr, hjr, hj9, fun q => absurd rfl q⟩
  rw [if_neg c1]
  have h9 := z_lt9 hjr hj9 c1
  by_cases c2 : F_X6_codeAt ra sh tf tn = 59
  · rw [if_pos c2]
    have i1 := z_inc hn0 hb hra (code_lt c2 (by decide))
    have fin : (¬ tn ≤ ra + 1) → ¬ (F_X6_readsPin_j59 ra rp ry ka ba ta sh tf tn).2.2.1 < 0 ∧ ∃ j : Nat, (F_X6_readsPin_j59 ra rp ry ka ba ta sh tf tn).2.2.2.1 = nI j ∧ j ≤ 9 ∧ (¬ (F_X6_readsPin_j59 ra rp ry ka ba ta sh tf tn).1 = 0 → j = jr + 1) := fun hcd => by
      obtain ⟨q1, q2⟩ := rp_j59 (ra := ra) (rp := rp) (ry := ry) (ka := ka) (ba := ba) (ta := ta) (sh := sh) (tf := tf) (tn := tn)
      exact ⟨by rw [q1]; exact figure_ra hn0 hb (by decide) (figure_ra hn0 hb (by decide) (z_inc hn0 hb i1 hcd)), jr + 1, by rw [q2, hjr]; exact nI_1 jr, by omega, fun _ => rfl⟩
    by_cases c3 : F_X6_codeAt (ra + 1) sh tf tn = 112
    · rw [if_pos c3]; exact fin (code_lt c3 (by decide))
    rw [if_neg c3]
    by_cases c4 : F_X6_codeAt (ra + 1) sh tf tn = 99
    · rw [if_pos c4]; exact fin (code_lt c4 (by decide))
    rw [if_neg c4]
    by_cases c5 : F_X6_codeAt (ra + 1) sh tf tn = 100
    · rw [if_pos c5]; exact fin (code_lt c5 (by decide))
    rw [if_neg c5]
    exact ⟨i1, jr, hjr, hj9, fun q => absurd rfl q⟩
  · rw [if_neg c2]; exact ⟨hra, jr, hjr, hj9, fun q => absurd rfl q⟩
theorem rp_b143 {ra rp ry : Int32} {ka ba ta sh : Nat → Int32} {tf tn : Int32} {s2 s3 : Int32} : (F_X6_readsPin_j143 ra rp ry ka ba ta sh tf tn s2 s3).1 = 0 ∨ (F_X6_readsPin_j143 ra rp ry ka ba ta sh tf tn s2 s3).1 = 1 := by
  rw [F_X6_readsPin_j143]
  split
  · exact Or.inl rfl
  · exact Or.inr rfl
theorem rp_b110 {ra rp ry : Int32} {ka ba ta sh : Nat → Int32} {tf tn : Int32} {s2 : Int32} : (F_X6_readsPin_j110 ra rp ry ka ba ta sh tf tn s2).1 = 0 ∨ (F_X6_readsPin_j110 ra rp ry ka ba ta sh tf tn s2).1 = 1 := by
  rw [F_X6_readsPin_j110]
  split
  · exact rp_b143
  · split <;> exact rp_b143
theorem rp_b59 {ra rp ry : Int32} {ka ba ta sh : Nat → Int32} {tf tn : Int32} : (F_X6_readsPin_j59 ra rp ry ka ba ta sh tf tn).1 = 0 ∨ (F_X6_readsPin_j59 ra rp ry ka ba ta sh tf tn).1 = 1 := by
  rw [F_X6_readsPin_j59]
  split <;> exact rp_b110
theorem readsPin_b {ra rp ry : Int32} {ka ba ta sh : Nat → Int32} {tf tn : Int32} {n0 jr : Nat} (hn0 : tn = nI n0) (hb : n0 ≤ 240) (hra : ¬ ra < 0) (hjr : rp = nI jr) (hj9 : jr ≤ 9) : (F_X6_readsPin ra rp ry ka ba ta sh tf tn).1 = 0 ∨ (F_X6_readsPin ra rp ry ka ba ta sh tf tn).1 = 1 := by
  rw [F_X6_readsPin]
  by_cases c1 : rp = 9
  · rw [if_pos c1]; exact Or.inl rfl
  rw [if_neg c1]
  by_cases c2 : F_X6_codeAt ra sh tf tn = 59
  · rw [if_pos c2]
    by_cases c3 : F_X6_codeAt (ra + 1) sh tf tn = 112
    · rw [if_pos c3]; exact rp_b59
    rw [if_neg c3]
    by_cases c4 : F_X6_codeAt (ra + 1) sh tf tn = 99
    · rw [if_pos c4]; exact rp_b59
    rw [if_neg c4]
    by_cases c5 : F_X6_codeAt (ra + 1) sh tf tn = 100
    · rw [if_pos c5]; exact rp_b59
    rw [if_neg c5]
    exact Or.inl rfl
  · rw [if_neg c2]; exact Or.inl rfl
-- X6_readsWell
theorem i_X6_readsWell_6 : ∀ w ∈ u_ws RX6 TX6 30, w ∈ wsX6_readsWell := by decide +kernel
theorem m_X6_readsWell_1 : Cond.fieldLink RX6 75 "WishPinsModel" "readAt" "I" ∈ wsX6_readsWell := List.mem_of_getElem? (i := 1) rfl
theorem m_X6_readsWell_2 : Cond.fieldLink RX6 82 "WishPinsModel" "readPins" "I" ∈ wsX6_readsWell := List.mem_of_getElem? (i := 2) rfl
theorem m_X6_readsWell_3 : Cond.fieldLink RX6 89 "WishPinsModel" "readYear" "I" ∈ wsX6_readsWell := List.mem_of_getElem? (i := 3) rfl
theorem m_X6_readsWell_4 : Cond.fieldLink RX6 92 "WishPinsModel" "readSlope" "I" ∈ wsX6_readsWell := List.mem_of_getElem? (i := 4) rfl
theorem m_X6_readsWell_5 : Cond.fieldLink RX6 95 "WishPinsModel" "readDrift" "I" ∈ wsX6_readsWell := List.mem_of_getElem? (i := 5) rfl
def F_X6_readsWell_k80 (sh : Nat → Int32) (tf : Int32) (tn : Int32) (x3_80 : Int32) (ry_80 : Int32) (ra_80 : Int32) (rp_80 : Int32) (ka_80 : Nat → Int32) (ba_80 : Nat → Int32) (ta_80 : Nat → Int32) : Int32 × Int32 × Int32 × Int32 × Int32 × Int32 × (Nat → Int32) × (Nat → Int32) × (Nat → Int32) :=
  (x3_80, (F_X6_figure ((0 : Int32) + (1 : Int32)) sh tf tn (0 : Int32) (1 : Int32) (5 : Int32)).1, (F_X6_figure (F_X6_figure ((0 : Int32) + (1 : Int32)) sh tf tn (0 : Int32) (1 : Int32) (5 : Int32)).2 sh tf tn (F_X6_figure ((0 : Int32) + (1 : Int32)) sh tf tn (0 : Int32) (1 : Int32) (5 : Int32)).1 (0 : Int32) (5 : Int32)).1, ry_80, ra_80, rp_80, ka_80, ba_80, ta_80)
def F_X6_readsWell_l80 (sh : Nat → Int32) (tf : Int32) (tn : Int32) (K_ : Int32 → Int32 → Int32 → Int32 → (Nat → Int32) → (Nat → Int32) → (Nat → Int32) → Int32 × Int32 × Int32 × Int32 × Int32 × Int32 × (Nat → Int32) × (Nat → Int32) × (Nat → Int32)) : Nat → Int32 → Int32 → Int32 → Int32 → (Nat → Int32) → (Nat → Int32) → (Nat → Int32) → Int32 × Int32 × Int32 × Int32 × Int32 × Int32 × (Nat → Int32) × (Nat → Int32) × (Nat → Int32)
  | 0, x3_80, ry_80, ra_80, rp_80, ka_80, ba_80, ta_80 => K_ x3_80 ry_80 ra_80 rp_80 ka_80 ba_80 ta_80
  | d80 + 1, x3_80, ry_80, ra_80, rp_80, ka_80, ba_80, ta_80 => (if x3_80 = 0 then (K_ x3_80 ry_80 ra_80 rp_80 ka_80 ba_80 ta_80) else (if rp_80 < (1 : Int32) then (F_X6_readsWell_l80 sh tf tn K_ d80 (F_X6_readsPin ra_80 rp_80 ry_80 ka_80 ba_80 ta_80 sh tf tn).1 (F_X6_readsPin ra_80 rp_80 ry_80 ka_80 ba_80 ta_80 sh tf tn).2.1 (F_X6_readsPin ra_80 rp_80 ry_80 ka_80 ba_80 ta_80 sh tf tn).2.2.1 (F_X6_readsPin ra_80 rp_80 ry_80 ka_80 ba_80 ta_80 sh tf tn).2.2.2.1 (F_X6_readsPin ra_80 rp_80 ry_80 ka_80 ba_80 ta_80 sh tf tn).2.2.2.2.1 (F_X6_readsPin ra_80 rp_80 ry_80 ka_80 ba_80 ta_80 sh tf tn).2.2.2.2.2.1 (F_X6_readsPin ra_80 rp_80 ry_80 ka_80 ba_80 ta_80 sh tf tn).2.2.2.2.2.2) else (if tn ≤ ra_80 then (K_ x3_80 ry_80 ra_80 rp_80 ka_80 ba_80 ta_80) else (F_X6_readsWell_l80 sh tf tn K_ d80 (F_X6_readsPin ra_80 rp_80 ry_80 ka_80 ba_80 ta_80 sh tf tn).1 (F_X6_readsPin ra_80 rp_80 ry_80 ka_80 ba_80 ta_80 sh tf tn).2.1 (F_X6_readsPin ra_80 rp_80 ry_80 ka_80 ba_80 ta_80 sh tf tn).2.2.1 (F_X6_readsPin ra_80 rp_80 ry_80 ka_80 ba_80 ta_80 sh tf tn).2.2.2.1 (F_X6_readsPin ra_80 rp_80 ry_80 ka_80 ba_80 ta_80 sh tf tn).2.2.2.2.1 (F_X6_readsPin ra_80 rp_80 ry_80 ka_80 ba_80 ta_80 sh tf tn).2.2.2.2.2.1 (F_X6_readsPin ra_80 rp_80 ry_80 ka_80 ba_80 ta_80 sh tf tn).2.2.2.2.2.2))))
def F_X6_readsWell_j79 (ka : Nat → Int32) (ba : Nat → Int32) (ta : Nat → Int32) (sh : Nat → Int32) (tf : Int32) (tn : Int32) (s0_79 : Int32) : Int32 × Int32 × Int32 × Int32 × Int32 × Int32 × (Nat → Int32) × (Nat → Int32) × (Nat → Int32) :=
  (F_X6_readsWell_l80 sh tf tn (F_X6_readsWell_k80 sh tf tn) 12 s0_79 (0 : Int32) (F_X6_figure (F_X6_figure ((0 : Int32) + (1 : Int32)) sh tf tn (0 : Int32) (1 : Int32) (5 : Int32)).2 sh tf tn (F_X6_figure ((0 : Int32) + (1 : Int32)) sh tf tn (0 : Int32) (1 : Int32) (5 : Int32)).1 (0 : Int32) (5 : Int32)).2 (0 : Int32) ka ba ta)
def F_X6_readsWell (rs : Int32) (rd : Int32) (ka : Nat → Int32) (ba : Nat → Int32) (ta : Nat → Int32) (sh : Nat → Int32) (tf : Int32) (tn : Int32) : Int32 × Int32 × Int32 × Int32 × Int32 × Int32 × (Nat → Int32) × (Nat → Int32) × (Nat → Int32) :=
  (if (F_X6_codeAt (0 : Int32) sh tf tn) = (119 : Int32) then (if (F_X6_figure (F_X6_figure ((0 : Int32) + (1 : Int32)) sh tf tn (0 : Int32) (1 : Int32) (5 : Int32)).2 sh tf tn (F_X6_figure ((0 : Int32) + (1 : Int32)) sh tf tn (0 : Int32) (1 : Int32) (5 : Int32)).1 (0 : Int32) (5 : Int32)).1 < 0 then (F_X6_readsWell_j79 ka ba ta sh tf tn (0 : Int32)) else (F_X6_readsWell_j79 ka ba ta sh tf tn (1 : Int32))) else ((0 : Int32), rs, rd, (0 : Int32), (0 : Int32), (0 : Int32), ka, ba, ta))
set_option maxHeartbeats 4000000 in
set_option maxRecDepth 100000 in
theorem c_X6_readsWell (l : Launch) (D : va_G) (cI cO : ClassId) (h6 : Nat) (q : Nat → Nat) (fl : Int32) (pn : Int32) (sl : Int32) (dr : Int32) (yn : Int32) (ra : Int32) (rp : Int32) (rs : Int32) (rd : Int32) (ry : Int32) (pk : Int32) (yk : Int32) (rg : Int32) (tc : Int32) (ka : Nat → Int32) (ba : Nat → Int32) (ta : Nat → Int32) (sh : Nat → Int32) (tf : Int32) (tn : Int32) (f0 : Nat) (n0 : Nat) (hf0 : tf = nI f0) (hn0 : tn = nI n0) (hfn : f0 + n0 ≤ 240) : zW l yX6_readsWell wsX6_readsWell ({ frames := 3, cells := 0, slots := 0, locals := 77 } : Room) D cI cO [.ref h6, .int tf, .int tn] [(h6, .inr (6, fM fl pn sl dr yn ra rp rs rd ry pk yk rg tc q)), ((q 13), .inl (cI, 9, .inl ka)), ((q 14), .inl (cI, 9, .inl ba)), ((q 15), .inl (cI, 9, .inl ta)), ((q 27), .inl (cI, 240, .inl sh))] [(h6, .inr (6, fM fl pn sl dr yn ((F_X6_readsWell rs rd ka ba ta sh tf tn).2.2.2.2.1) ((F_X6_readsWell rs rd ka ba ta sh tf tn).2.2.2.2.2.1) ((F_X6_readsWell rs rd ka ba ta sh tf tn).2.1) ((F_X6_readsWell rs rd ka ba ta sh tf tn).2.2.1) ((F_X6_readsWell rs rd ka ba ta sh tf tn).2.2.2.1) pk yk rg tc q)), ((q 13), .inl (cI, 9, .inl ((F_X6_readsWell rs rd ka ba ta sh tf tn).2.2.2.2.2.2.1))), ((q 14), .inl (cI, 9, .inl ((F_X6_readsWell rs rd ka ba ta sh tf tn).2.2.2.2.2.2.2.1))), ((q 15), .inl (cI, 9, .inl ((F_X6_readsWell rs rd ka ba ta sh tf tn).2.2.2.2.2.2.2.2))), ((q 27), .inl (cI, 240, .inl sh))] (some (.int ((F_X6_readsWell rs rd ka ba ta sh tf tn).1))) := by
  refine zW_of (nL := 4) (cc := cX6_readsWell) (ret := some .boolean) (lv := [(0, .ref h6), (1, .int tf), (2, .int tn)]) (by decide +kernel) rfl (Nat.le_of_ble_eq_true rfl) rfl (fun p e s m args below meth c C hr hlk => ?_)
  have hf := F_X6_readsWell.eq_1 rs rd ka ba ta sh tf tn
  refine z_aload_n C dX6_readsWell_0 rfl 0 rfl ?_
  refine z_iconst (v := (0 : Int32)) C dX6_readsWell_1 (by decide) ?_
  refine z_put (T := TX6) (ty := .int) C [(h6, .inr (6, fM fl pn sl dr yn (0 : Int32) rp rs rd ry pk yk rg tc q)), ((q 13), .inl (cI, 9, .inl ka)), ((q 14), .inl (cI, 9, .inl ba)), ((q 15), .inl (cI, 9, .inl ta)), ((q 27), .inl (cI, 240, .inl sh))] i_X6_readsWell_6 tyX6 tyX6_ok nmX6 0 rfl rfl 8 (by decide) m_X6_readsWell_1 rfl rfl (by decide +kernel) rfl rfl (Nat.le_of_ble_eq_true rfl) dX6_readsWell_2 rfl ?_
  refine z_aload_n C dX6_readsWell_5 rfl 0 rfl ?_
  refine z_iconst (v := (0 : Int32)) C dX6_readsWell_6 (by decide) ?_
  refine z_put (T := TX6) (ty := .int) C [(h6, .inr (6, fM fl pn sl dr yn (0 : Int32) (0 : Int32) rs rd ry pk yk rg tc q)), ((q 13), .inl (cI, 9, .inl ka)), ((q 14), .inl (cI, 9, .inl ba)), ((q 15), .inl (cI, 9, .inl ta)), ((q 27), .inl (cI, 240, .inl sh))] i_X6_readsWell_6 tyX6 tyX6_ok nmX6 0 rfl rfl 9 (by decide) m_X6_readsWell_2 rfl rfl (by decide +kernel) rfl rfl (Nat.le_of_ble_eq_true rfl) dX6_readsWell_7 rfl ?_
  refine z_aload_n C dX6_readsWell_10 rfl 0 rfl ?_
  refine z_iconst (v := (0 : Int32)) C dX6_readsWell_11 (by decide) ?_
  refine z_put (T := TX6) (ty := .int) C [(h6, .inr (6, fM fl pn sl dr yn (0 : Int32) (0 : Int32) rs rd (0 : Int32) pk yk rg tc q)), ((q 13), .inl (cI, 9, .inl ka)), ((q 14), .inl (cI, 9, .inl ba)), ((q 15), .inl (cI, 9, .inl ta)), ((q 27), .inl (cI, 240, .inl sh))] i_X6_readsWell_6 tyX6 tyX6_ok nmX6 0 rfl rfl 12 (by decide) m_X6_readsWell_3 rfl rfl (by decide +kernel) rfl rfl (Nat.le_of_ble_eq_true rfl) dX6_readsWell_12 rfl ?_
  refine z_aload_n C dX6_readsWell_15 rfl 0 rfl ?_
  refine z_iload_n C dX6_readsWell_16 rfl 1 rfl ?_
  refine z_iload_n C dX6_readsWell_17 rfl 2 rfl ?_
  refine z_cVR (As := [.int tf, .int tn]) C (c_X6_codeAt l D cI cO h6 q fl pn sl dr yn (0 : Int32) (0 : Int32) rs rd (0 : Int32) pk yk rg tc sh tf tn f0 n0 hf0 hn0 hfn (by decide)) (cwV 2 C.2.2.2.2.1 gX6_readsWell_X6_codeAt rfl rfl rfl hdV_X6_codeAt ⟨Nat.le_of_ble_eq_true rfl, Nat.le_of_ble_eq_true rfl⟩) [0, 4] rfl rfl 0 rfl rfl rfl _ rfl (Nat.le_of_ble_eq_true rfl) ⟨Nat.zero_le _, Nat.zero_le _⟩ dX6_readsWell_18 ?_
  generalize hu18 : (F_X6_codeAt (0 : Int32) sh tf tn) = u18 at hf ⊢
  refine z_bipush (v := (119 : Int32)) C dX6_readsWell_21 (by decide) ?_
  refine z_icmp_eq (tgt := 28) C dX6_readsWell_23 (by decide) (fun c23 => ?_) (fun c23 => ?_)
  · rw [if_pos c23] at hf
    have b23 := c23
    rw [← hu18] at c23
    refine z_aload_n C dX6_readsWell_28 rfl 0 rfl ?_
    refine z_dup C dX6_readsWell_29 rfl ?_
    refine z_get (T := TX6) (v := .int (0 : Int32)) C i_X6_readsWell_6 0 rfl rfl 8 (by decide) m_X6_readsWell_1 rfl rfl dX6_readsWell_30 ?_
    refine z_iconst (v := (1 : Int32)) C dX6_readsWell_33 (by decide) ?_
    refine z_iadd C dX6_readsWell_34 ?_
    refine z_put (T := TX6) (ty := .int) C [(h6, .inr (6, fM fl pn sl dr yn ((0 : Int32) + (1 : Int32)) (0 : Int32) rs rd (0 : Int32) pk yk rg tc q)), ((q 13), .inl (cI, 9, .inl ka)), ((q 14), .inl (cI, 9, .inl ba)), ((q 15), .inl (cI, 9, .inl ta)), ((q 27), .inl (cI, 240, .inl sh))] i_X6_readsWell_6 tyX6 tyX6_ok nmX6 0 rfl rfl 8 (by decide) m_X6_readsWell_1 rfl rfl (by decide +kernel) rfl rfl (Nat.le_of_ble_eq_true rfl) dX6_readsWell_35 rfl ?_
    refine z_aload_n C dX6_readsWell_38 rfl 0 rfl ?_
    refine z_aload_n C dX6_readsWell_39 rfl 0 rfl ?_
    refine z_iload_n C dX6_readsWell_40 rfl 1 rfl ?_
    refine z_iload_n C dX6_readsWell_41 rfl 2 rfl ?_
    refine z_iconst (v := (0 : Int32)) C dX6_readsWell_42 (by decide) ?_
    refine z_iconst (v := (1 : Int32)) C dX6_readsWell_43 (by decide) ?_
    refine z_iconst (v := (5 : Int32)) C dX6_readsWell_44 (by decide) ?_
    refine z_cVW (As := [.int tf, .int tn, .int (0 : Int32), .int (1 : Int32), .int (5 : Int32)]) C (c_X6_figure l D cI cO h6 q fl pn sl dr yn ((0 : Int32) + (1 : Int32)) (0 : Int32) rs rd (0 : Int32) pk yk rg tc sh tf tn (0 : Int32) (1 : Int32) (5 : Int32) f0 n0 (by subst hu18; exact hf0) (by subst hu18; exact hn0) (by subst hu18; exact hfn) (by subst hu18; exact (z_inc hn0 (by omega) (by decide) (code_lt c23 (by decide))))) (cwV 5 C.2.2.2.2.1 gX6_readsWell_X6_figure rfl rfl rfl hdV_X6_figure ⟨Nat.le_of_ble_eq_true rfl, Nat.le_of_ble_eq_true rfl⟩) [(h6, .inr (6, fM fl pn sl dr yn ((F_X6_figure ((0 : Int32) + (1 : Int32)) sh tf tn (0 : Int32) (1 : Int32) (5 : Int32)).2) (0 : Int32) rs rd (0 : Int32) pk yk rg tc q)), ((q 13), .inl (cI, 9, .inl ka)), ((q 14), .inl (cI, 9, .inl ba)), ((q 15), .inl (cI, 9, .inl ta)), ((q 27), .inl (cI, 240, .inl sh))] [0, 4] rfl rfl (Eq.refl [h6, (q 27)]) rfl 0 rfl rfl rfl _ rfl (Nat.le_of_ble_eq_true rfl) ⟨Nat.zero_le _, Nat.zero_le _⟩ dX6_readsWell_45 ?_
    generalize hu45 : (F_X6_figure ((0 : Int32) + (1 : Int32)) sh tf tn (0 : Int32) (1 : Int32) (5 : Int32)) = u45 at hf ⊢
    refine z_put (T := TX6) (ty := .int) C [(h6, .inr (6, fM fl pn sl dr yn u45.2 (0 : Int32) u45.1 rd (0 : Int32) pk yk rg tc q)), ((q 13), .inl (cI, 9, .inl ka)), ((q 14), .inl (cI, 9, .inl ba)), ((q 15), .inl (cI, 9, .inl ta)), ((q 27), .inl (cI, 240, .inl sh))] i_X6_readsWell_6 tyX6 tyX6_ok nmX6 0 rfl rfl 10 (by decide) m_X6_readsWell_4 rfl rfl (by decide +kernel) rfl rfl (Nat.le_of_ble_eq_true rfl) dX6_readsWell_48 rfl ?_
    refine z_aload_n C dX6_readsWell_51 rfl 0 rfl ?_
    refine z_aload_n C dX6_readsWell_52 rfl 0 rfl ?_
    refine z_iload_n C dX6_readsWell_53 rfl 1 rfl ?_
    refine z_iload_n C dX6_readsWell_54 rfl 2 rfl ?_
    refine z_aload_n C dX6_readsWell_55 rfl 0 rfl ?_
    refine z_get (T := TX6) (v := .int u45.1) C i_X6_readsWell_6 0 rfl rfl 10 (by decide) m_X6_readsWell_4 rfl rfl dX6_readsWell_56 ?_
    refine z_iconst (v := (0 : Int32)) C dX6_readsWell_59 (by decide) ?_
    refine z_iconst (v := (5 : Int32)) C dX6_readsWell_60 (by decide) ?_
    refine z_cVW (As := [.int tf, .int tn, .int u45.1, .int (0 : Int32), .int (5 : Int32)]) C (c_X6_figure l D cI cO h6 q fl pn sl dr yn u45.2 (0 : Int32) u45.1 rd (0 : Int32) pk yk rg tc sh tf tn u45.1 (0 : Int32) (5 : Int32) f0 n0 (by subst hu45 hu18; exact hf0) (by subst hu45 hu18; exact hn0) (by subst hu45 hu18; exact hfn) (by subst hu45 hu18; exact (figure_ra hn0 (by omega) (by decide) (z_inc hn0 (by omega) (by decide) (code_lt c23 (by decide)))))) (cwV 5 C.2.2.2.2.1 gX6_readsWell_X6_figure rfl rfl rfl hdV_X6_figure ⟨Nat.le_of_ble_eq_true rfl, Nat.le_of_ble_eq_true rfl⟩) [(h6, .inr (6, fM fl pn sl dr yn ((F_X6_figure u45.2 sh tf tn u45.1 (0 : Int32) (5 : Int32)).2) (0 : Int32) u45.1 rd (0 : Int32) pk yk rg tc q)), ((q 13), .inl (cI, 9, .inl ka)), ((q 14), .inl (cI, 9, .inl ba)), ((q 15), .inl (cI, 9, .inl ta)), ((q 27), .inl (cI, 240, .inl sh))] [0, 4] rfl rfl (Eq.refl [h6, (q 27)]) rfl 0 rfl rfl rfl _ rfl (Nat.le_of_ble_eq_true rfl) ⟨Nat.zero_le _, Nat.zero_le _⟩ dX6_readsWell_61 ?_
    generalize hu61 : (F_X6_figure u45.2 sh tf tn u45.1 (0 : Int32) (5 : Int32)) = u61 at hf ⊢
    refine z_put (T := TX6) (ty := .int) C [(h6, .inr (6, fM fl pn sl dr yn u61.2 (0 : Int32) u45.1 u61.1 (0 : Int32) pk yk rg tc q)), ((q 13), .inl (cI, 9, .inl ka)), ((q 14), .inl (cI, 9, .inl ba)), ((q 15), .inl (cI, 9, .inl ta)), ((q 27), .inl (cI, 240, .inl sh))] i_X6_readsWell_6 tyX6 tyX6_ok nmX6 0 rfl rfl 11 (by decide) m_X6_readsWell_5 rfl rfl (by decide +kernel) rfl rfl (Nat.le_of_ble_eq_true rfl) dX6_readsWell_64 rfl ?_
    refine z_aload_n C dX6_readsWell_67 rfl 0 rfl ?_
    refine z_get (T := TX6) (v := .int u61.1) C i_X6_readsWell_6 0 rfl rfl 11 (by decide) m_X6_readsWell_5 rfl rfl dX6_readsWell_68 ?_
    have J79 : ∀ (s0_79 : Int32) (hb79 : s0_79 = 0 ∨ s0_79 = 1), F_X6_readsWell rs rd ka ba ta sh tf tn = F_X6_readsWell_j79 ka ba ta sh tf tn s0_79 → zG p l e ({ frames := 3, cells := 0, slots := 0, locals := 77 } : Room) s m args below meth c D (zA [(h6, .inr (6, fM fl pn sl dr yn ra rp rs rd ry pk yk rg tc q)), ((q 13), .inl (cI, 9, .inl ka)), ((q 14), .inl (cI, 9, .inl ba)), ((q 15), .inl (cI, 9, .inl ta)), ((q 27), .inl (cI, 240, .inl sh))]) (zXw (zA [(h6, .inr (6, fM fl pn sl dr yn ra rp rs rd ry pk yk rg tc q)), ((q 13), .inl (cI, 9, .inl ka)), ((q 14), .inl (cI, 9, .inl ba)), ((q 15), .inl (cI, 9, .inl ta)), ((q 27), .inl (cI, 240, .inl sh))]) s.heap) 4 0 0 (MQ below (zQw D [(h6, .inr (6, fM fl pn sl dr yn ((F_X6_readsWell rs rd ka ba ta sh tf tn).2.2.2.2.1) ((F_X6_readsWell rs rd ka ba ta sh tf tn).2.2.2.2.2.1) ((F_X6_readsWell rs rd ka ba ta sh tf tn).2.1) ((F_X6_readsWell rs rd ka ba ta sh tf tn).2.2.1) ((F_X6_readsWell rs rd ka ba ta sh tf tn).2.2.2.1) pk yk rg tc q)), ((q 13), .inl (cI, 9, .inl ((F_X6_readsWell rs rd ka ba ta sh tf tn).2.2.2.2.2.2.1))), ((q 14), .inl (cI, 9, .inl ((F_X6_readsWell rs rd ka ba ta sh tf tn).2.2.2.2.2.2.2.1))), ((q 15), .inl (cI, 9, .inl ((F_X6_readsWell rs rd ka ba ta sh tf tn).2.2.2.2.2.2.2.2))), ((q 27), .inl (cI, 240, .inl sh))] (zA [(h6, .inr (6, fM fl pn sl dr yn ra rp rs rd ry pk yk rg tc q)), ((q 13), .inl (cI, 9, .inl ka)), ((q 14), .inl (cI, 9, .inl ba)), ((q 15), .inl (cI, 9, .inl ta)), ((q 27), .inl (cI, 240, .inl sh))]) (some (.int ((F_X6_readsWell rs rd ka ba ta sh tf tn).1)))) args s 0 0 (zA [(h6, .inr (6, fM fl pn sl dr yn ra rp rs rd ry pk yk rg tc q)), ((q 13), .inl (cI, 9, .inl ka)), ((q 14), .inl (cI, 9, .inl ba)), ((q 15), .inl (cI, 9, .inl ta)), ((q 27), .inl (cI, 240, .inl sh))])) 79 [(0, .ref h6), (1, .int tf), (2, .int tn)] [.int s0_79] [(h6, .inr (6, fM fl pn sl dr yn u61.2 (0 : Int32) u45.1 u61.1 (0 : Int32) pk yk rg tc q)), ((q 13), .inl (cI, 9, .inl ka)), ((q 14), .inl (cI, 9, .inl ba)), ((q 15), .inl (cI, 9, .inl ta)), ((q 27), .inl (cI, 240, .inl sh))] := by
      intro s0_79 hb79 hf
      rw [F_X6_readsWell_j79] at hf
      simp only [hu45, hu61] at hf
      refine z_istore_n C [(0, .ref h6), (1, .int tf), (2, .int tn), (3, .int s0_79)] dX6_readsWell_79 rfl (by decide) [1, 2, 3, 0] rfl ?_
      have X80 : ∀ (x3_80 : Int32) (ry_80 : Int32) (ra_80 : Int32) (rp_80 : Int32) (ka_80 : Nat → Int32) (ba_80 : Nat → Int32) (ta_80 : Nat → Int32) (hbx : x3_80 = 0 ∨ x3_80 = 1), F_X6_readsWell rs rd ka ba ta sh tf tn = (F_X6_readsWell_k80 sh tf tn) x3_80 ry_80 ra_80 rp_80 ka_80 ba_80 ta_80 → zG p l e ({ frames := 3, cells := 0, slots := 0, locals := 77 } : Room) s m args below meth c D (zA [(h6, .inr (6, fM fl pn sl dr yn ra rp rs rd ry pk yk rg tc q)), ((q 13), .inl (cI, 9, .inl ka)), ((q 14), .inl (cI, 9, .inl ba)), ((q 15), .inl (cI, 9, .inl ta)), ((q 27), .inl (cI, 240, .inl sh))]) (zXw (zA [(h6, .inr (6, fM fl pn sl dr yn ra rp rs rd ry pk yk rg tc q)), ((q 13), .inl (cI, 9, .inl ka)), ((q 14), .inl (cI, 9, .inl ba)), ((q 15), .inl (cI, 9, .inl ta)), ((q 27), .inl (cI, 240, .inl sh))]) s.heap) 4 0 0 (MQ below (zQw D [(h6, .inr (6, fM fl pn sl dr yn ((F_X6_readsWell rs rd ka ba ta sh tf tn).2.2.2.2.1) ((F_X6_readsWell rs rd ka ba ta sh tf tn).2.2.2.2.2.1) ((F_X6_readsWell rs rd ka ba ta sh tf tn).2.1) ((F_X6_readsWell rs rd ka ba ta sh tf tn).2.2.1) ((F_X6_readsWell rs rd ka ba ta sh tf tn).2.2.2.1) pk yk rg tc q)), ((q 13), .inl (cI, 9, .inl ((F_X6_readsWell rs rd ka ba ta sh tf tn).2.2.2.2.2.2.1))), ((q 14), .inl (cI, 9, .inl ((F_X6_readsWell rs rd ka ba ta sh tf tn).2.2.2.2.2.2.2.1))), ((q 15), .inl (cI, 9, .inl ((F_X6_readsWell rs rd ka ba ta sh tf tn).2.2.2.2.2.2.2.2))), ((q 27), .inl (cI, 240, .inl sh))] (zA [(h6, .inr (6, fM fl pn sl dr yn ra rp rs rd ry pk yk rg tc q)), ((q 13), .inl (cI, 9, .inl ka)), ((q 14), .inl (cI, 9, .inl ba)), ((q 15), .inl (cI, 9, .inl ta)), ((q 27), .inl (cI, 240, .inl sh))]) (some (.int ((F_X6_readsWell rs rd ka ba ta sh tf tn).1)))) args s 0 0 (zA [(h6, .inr (6, fM fl pn sl dr yn ra rp rs rd ry pk yk rg tc q)), ((q 13), .inl (cI, 9, .inl ka)), ((q 14), .inl (cI, 9, .inl ba)), ((q 15), .inl (cI, 9, .inl ta)), ((q 27), .inl (cI, 240, .inl sh))])) 110 [(0, .ref h6), (1, .int tf), (2, .int tn), (3, .int x3_80)] [] [(h6, .inr (6, fM fl pn sl dr yn ra_80 rp_80 u45.1 u61.1 ry_80 pk yk rg tc q)), ((q 13), .inl (cI, 9, .inl ka_80)), ((q 14), .inl (cI, 9, .inl ba_80)), ((q 15), .inl (cI, 9, .inl ta_80)), ((q 27), .inl (cI, 240, .inl sh))] := by
        intro x3_80 ry_80 ra_80 rp_80 ka_80 ba_80 ta_80 hbx hf
        rw [F_X6_readsWell_k80] at hf
        simp only [hu45, hu61] at hf
        refine z_iload_n C dX6_readsWell_110 rfl 3 rfl ?_
        exact z_zretW C hr hlk (by subst hu61 hu45 hu18; exact (z_bool hbx)) (by rw [hf]) (by rw [hf]) dX6_readsWell_111
      have L80 : ∀ (d80 : Nat) (jj : Nat) (x3_80 : Int32) (ry_80 : Int32) (ra_80 : Int32) (rp_80 : Int32) (ka_80 : Nat → Int32) (ba_80 : Nat → Int32) (ta_80 : Nat → Int32) (hb : x3_80 = 0 ∨ x3_80 = 1) (hjj : rp_80 = nI jj) (hj9 : jj ≤ 9) (hra : ¬ ra_80 < 0) (hd1 : x3_80 = 0 → 1 ≤ d80) (hd2 : ¬ x3_80 = 0 → 11 ≤ jj + d80), F_X6_readsWell rs rd ka ba ta sh tf tn = F_X6_readsWell_l80 sh tf tn (F_X6_readsWell_k80 sh tf tn) d80 x3_80 ry_80 ra_80 rp_80 ka_80 ba_80 ta_80 → zG p l e ({ frames := 3, cells := 0, slots := 0, locals := 77 } : Room) s m args below meth c D (zA [(h6, .inr (6, fM fl pn sl dr yn ra rp rs rd ry pk yk rg tc q)), ((q 13), .inl (cI, 9, .inl ka)), ((q 14), .inl (cI, 9, .inl ba)), ((q 15), .inl (cI, 9, .inl ta)), ((q 27), .inl (cI, 240, .inl sh))]) (zXw (zA [(h6, .inr (6, fM fl pn sl dr yn ra rp rs rd ry pk yk rg tc q)), ((q 13), .inl (cI, 9, .inl ka)), ((q 14), .inl (cI, 9, .inl ba)), ((q 15), .inl (cI, 9, .inl ta)), ((q 27), .inl (cI, 240, .inl sh))]) s.heap) 4 0 0 (MQ below (zQw D [(h6, .inr (6, fM fl pn sl dr yn ((F_X6_readsWell rs rd ka ba ta sh tf tn).2.2.2.2.1) ((F_X6_readsWell rs rd ka ba ta sh tf tn).2.2.2.2.2.1) ((F_X6_readsWell rs rd ka ba ta sh tf tn).2.1) ((F_X6_readsWell rs rd ka ba ta sh tf tn).2.2.1) ((F_X6_readsWell rs rd ka ba ta sh tf tn).2.2.2.1) pk yk rg tc q)), ((q 13), .inl (cI, 9, .inl ((F_X6_readsWell rs rd ka ba ta sh tf tn).2.2.2.2.2.2.1))), ((q 14), .inl (cI, 9, .inl ((F_X6_readsWell rs rd ka ba ta sh tf tn).2.2.2.2.2.2.2.1))), ((q 15), .inl (cI, 9, .inl ((F_X6_readsWell rs rd ka ba ta sh tf tn).2.2.2.2.2.2.2.2))), ((q 27), .inl (cI, 240, .inl sh))] (zA [(h6, .inr (6, fM fl pn sl dr yn ra rp rs rd ry pk yk rg tc q)), ((q 13), .inl (cI, 9, .inl ka)), ((q 14), .inl (cI, 9, .inl ba)), ((q 15), .inl (cI, 9, .inl ta)), ((q 27), .inl (cI, 240, .inl sh))]) (some (.int ((F_X6_readsWell rs rd ka ba ta sh tf tn).1)))) args s 0 0 (zA [(h6, .inr (6, fM fl pn sl dr yn ra rp rs rd ry pk yk rg tc q)), ((q 13), .inl (cI, 9, .inl ka)), ((q 14), .inl (cI, 9, .inl ba)), ((q 15), .inl (cI, 9, .inl ta)), ((q 27), .inl (cI, 240, .inl sh))])) 80 [(0, .ref h6), (1, .int tf), (2, .int tn), (3, .int x3_80)] [] [(h6, .inr (6, fM fl pn sl dr yn ra_80 rp_80 u45.1 u61.1 ry_80 pk yk rg tc q)), ((q 13), .inl (cI, 9, .inl ka_80)), ((q 14), .inl (cI, 9, .inl ba_80)), ((q 15), .inl (cI, 9, .inl ta_80)), ((q 27), .inl (cI, 240, .inl sh))] := by
        intro d80
        induction d80 with
        | zero =>
          intro jj x3_80 ry_80 ra_80 rp_80 ka_80 ba_80 ta_80 hb hjj hj9 hra hd1 hd2 hf
          exfalso; exact (Classical.em (x3_80 = 0)).elim (fun z => by have := hd1 z; omega) (fun z => by have := hd2 z; omega)
        | succ d80 ih80 =>
          intro jj x3_80 ry_80 ra_80 rp_80 ka_80 ba_80 ta_80 hb hjj hj9 hra hd1 hd2 hf
          rw [F_X6_readsWell_l80] at hf
          skip
          refine z_iload_n C dX6_readsWell_80 rfl 3 rfl ?_
          refine z_if_eq (tgt := 110) C dX6_readsWell_81 (by decide) (fun c81 => ?_) (fun c81 => ?_)
          · rw [if_pos c81] at hf
            exact X80 x3_80 ry_80 ra_80 rp_80 ka_80 ba_80 ta_80 (by subst hu61 hu45 hu18; exact hb) hf
          · rw [if_neg c81] at hf
            refine z_aload_n C dX6_readsWell_84 rfl 0 rfl ?_
            refine z_get (T := TX6) (v := .int rp_80) C i_X6_readsWell_6 0 rfl rfl 9 (by decide) m_X6_readsWell_2 rfl rfl dX6_readsWell_85 ?_
            refine z_iconst (v := (1 : Int32)) C dX6_readsWell_88 (by decide) ?_
            refine z_icmp_lt (tgt := 100) C dX6_readsWell_89 (by decide) (fun c89 => ?_) (fun c89 => ?_)
            · rw [if_pos c89] at hf
              refine z_aload_n C dX6_readsWell_100 rfl 0 rfl ?_
              refine z_iload_n C dX6_readsWell_101 rfl 1 rfl ?_
              refine z_iload_n C dX6_readsWell_102 rfl 2 rfl ?_
              refine z_cVW (As := [.int tf, .int tn]) C (c_X6_readsPin l D cI cO h6 q fl pn sl dr yn ra_80 rp_80 u45.1 u61.1 ry_80 pk yk rg tc ka_80 ba_80 ta_80 sh tf tn f0 n0 jj (by subst hu61 hu45 hu18; exact hf0) (by subst hu61 hu45 hu18; exact hn0) (by subst hu61 hu45 hu18; exact hfn) (by subst hu61 hu45 hu18; exact hra) (by subst hu61 hu45 hu18; exact hjj) (by subst hu61 hu45 hu18; exact hj9)) (cwV 2 C.2.2.2.2.1 gX6_readsWell_X6_readsPin rfl rfl rfl hdV_X6_readsPin ⟨Nat.le_of_ble_eq_true rfl, Nat.le_of_ble_eq_true rfl⟩) [(h6, .inr (6, fM fl pn sl dr yn ((F_X6_readsPin ra_80 rp_80 ry_80 ka_80 ba_80 ta_80 sh tf tn).2.2.1) ((F_X6_readsPin ra_80 rp_80 ry_80 ka_80 ba_80 ta_80 sh tf tn).2.2.2.1) u45.1 u61.1 ((F_X6_readsPin ra_80 rp_80 ry_80 ka_80 ba_80 ta_80 sh tf tn).2.1) pk yk rg tc q)), ((q 13), .inl (cI, 9, .inl ((F_X6_readsPin ra_80 rp_80 ry_80 ka_80 ba_80 ta_80 sh tf tn).2.2.2.2.1))), ((q 14), .inl (cI, 9, .inl ((F_X6_readsPin ra_80 rp_80 ry_80 ka_80 ba_80 ta_80 sh tf tn).2.2.2.2.2.1))), ((q 15), .inl (cI, 9, .inl ((F_X6_readsPin ra_80 rp_80 ry_80 ka_80 ba_80 ta_80 sh tf tn).2.2.2.2.2.2))), ((q 27), .inl (cI, 240, .inl sh))] [0, 1, 2, 3, 4] rfl rfl (Eq.refl [h6, (q 13), (q 14), (q 15), (q 27)]) rfl 0 rfl rfl rfl _ rfl (Nat.le_of_ble_eq_true rfl) ⟨Nat.zero_le _, Nat.zero_le _⟩ dX6_readsWell_103 ?_
              generalize hu103 : (F_X6_readsPin ra_80 rp_80 ry_80 ka_80 ba_80 ta_80 sh tf tn) = u103 at hf ⊢
              obtain ⟨hra2, jn, hjn, hjn9, hjn1⟩ := readsPin_ok (ry := ry_80) (ka := ka_80) (ba := ba_80) (ta := ta_80) (sh := sh) (tf := tf) hn0 (by omega) hra hjj hj9
              refine z_istore_n C [(0, .ref h6), (1, .int tf), (2, .int tn), (3, .int u103.1)] dX6_readsWell_106 rfl (by decide) [1, 2, 3, 0] rfl ?_
              refine z_goto (tgt := 80) C dX6_readsWell_107 (by decide) ?_
              exact ih80 jn u103.1 u103.2.1 u103.2.2.1 u103.2.2.2.1 u103.2.2.2.2.1 u103.2.2.2.2.2.1 u103.2.2.2.2.2.2 (by subst hu103 hu61 hu45 hu18; exact (readsPin_b hn0 (by omega) hra hjj hj9)) (by subst hu103 hu61 hu45 hu18; exact hjn) (by subst hu103 hu61 hu45 hu18; exact hjn9) (by subst hu103 hu61 hu45 hu18; exact hra2) (by subst hu103 hu61 hu45 hu18; exact (fun _ => by have := hd2 c81; omega)) (by subst hu103 hu61 hu45 hu18; exact (fun z => by have := hjn1 z; have := hd2 c81; omega)) hf
            · rw [if_neg c89] at hf
              refine z_aload_n C dX6_readsWell_92 rfl 0 rfl ?_
              refine z_get (T := TX6) (v := .int ra_80) C i_X6_readsWell_6 0 rfl rfl 8 (by decide) m_X6_readsWell_1 rfl rfl dX6_readsWell_93 ?_
              refine z_iload_n C dX6_readsWell_96 rfl 2 rfl ?_
              refine z_icmp_ge (tgt := 110) C dX6_readsWell_97 (by decide) (fun c97 => ?_) (fun c97 => ?_)
              · rw [if_pos c97] at hf
                exact X80 x3_80 ry_80 ra_80 rp_80 ka_80 ba_80 ta_80 (by subst hu61 hu45 hu18; exact hb) hf
              · rw [if_neg c97] at hf
                refine z_aload_n C dX6_readsWell_100 rfl 0 rfl ?_
                refine z_iload_n C dX6_readsWell_101 rfl 1 rfl ?_
                refine z_iload_n C dX6_readsWell_102 rfl 2 rfl ?_
                refine z_cVW (As := [.int tf, .int tn]) C (c_X6_readsPin l D cI cO h6 q fl pn sl dr yn ra_80 rp_80 u45.1 u61.1 ry_80 pk yk rg tc ka_80 ba_80 ta_80 sh tf tn f0 n0 jj (by subst hu61 hu45 hu18; exact hf0) (by subst hu61 hu45 hu18; exact hn0) (by subst hu61 hu45 hu18; exact hfn) (by subst hu61 hu45 hu18; exact hra) (by subst hu61 hu45 hu18; exact hjj) (by subst hu61 hu45 hu18; exact hj9)) (cwV 2 C.2.2.2.2.1 gX6_readsWell_X6_readsPin rfl rfl rfl hdV_X6_readsPin ⟨Nat.le_of_ble_eq_true rfl, Nat.le_of_ble_eq_true rfl⟩) [(h6, .inr (6, fM fl pn sl dr yn ((F_X6_readsPin ra_80 rp_80 ry_80 ka_80 ba_80 ta_80 sh tf tn).2.2.1) ((F_X6_readsPin ra_80 rp_80 ry_80 ka_80 ba_80 ta_80 sh tf tn).2.2.2.1) u45.1 u61.1 ((F_X6_readsPin ra_80 rp_80 ry_80 ka_80 ba_80 ta_80 sh tf tn).2.1) pk yk rg tc q)), ((q 13), .inl (cI, 9, .inl ((F_X6_readsPin ra_80 rp_80 ry_80 ka_80 ba_80 ta_80 sh tf tn).2.2.2.2.1))), ((q 14), .inl (cI, 9, .inl ((F_X6_readsPin ra_80 rp_80 ry_80 ka_80 ba_80 ta_80 sh tf tn).2.2.2.2.2.1))), ((q 15), .inl (cI, 9, .inl ((F_X6_readsPin ra_80 rp_80 ry_80 ka_80 ba_80 ta_80 sh tf tn).2.2.2.2.2.2))), ((q 27), .inl (cI, 240, .inl sh))] [0, 1, 2, 3, 4] rfl rfl (Eq.refl [h6, (q 13), (q 14), (q 15), (q 27)]) rfl 0 rfl rfl rfl _ rfl (Nat.le_of_ble_eq_true rfl) ⟨Nat.zero_le _, Nat.zero_le _⟩ dX6_readsWell_103 ?_
                generalize hu103 : (F_X6_readsPin ra_80 rp_80 ry_80 ka_80 ba_80 ta_80 sh tf tn) = u103 at hf ⊢
                obtain ⟨hra2, jn, hjn, hjn9, hjn1⟩ := readsPin_ok (ry := ry_80) (ka := ka_80) (ba := ba_80) (ta := ta_80) (sh := sh) (tf := tf) hn0 (by omega) hra hjj hj9
                refine z_istore_n C [(0, .ref h6), (1, .int tf), (2, .int tn), (3, .int u103.1)] dX6_readsWell_106 rfl (by decide) [1, 2, 3, 0] rfl ?_
                refine z_goto (tgt := 80) C dX6_readsWell_107 (by decide) ?_
                exact ih80 jn u103.1 u103.2.1 u103.2.2.1 u103.2.2.2.1 u103.2.2.2.2.1 u103.2.2.2.2.2.1 u103.2.2.2.2.2.2 (by subst hu103 hu61 hu45 hu18; exact (readsPin_b hn0 (by omega) hra hjj hj9)) (by subst hu103 hu61 hu45 hu18; exact hjn) (by subst hu103 hu61 hu45 hu18; exact hjn9) (by subst hu103 hu61 hu45 hu18; exact hra2) (by subst hu103 hu61 hu45 hu18; exact (fun _ => by have := hd2 c81; omega)) (by subst hu103 hu61 hu45 hu18; exact (fun z => by have := hjn1 z; have := hd2 c81; omega)) hf
      exact L80 12 0 s0_79 (0 : Int32) u61.2 (0 : Int32) ka ba ta (by subst hu61 hu45 hu18; exact hb79) (by subst hu61 hu45 hu18; exact nI_0.symm) (by omega) (by subst hu61 hu45 hu18; exact (figure_ra hn0 (by omega) (by decide) (figure_ra hn0 (by omega) (by decide) (z_inc hn0 (by omega) (by decide) (code_lt c23 (by decide)))))) (by subst hu61 hu45 hu18; exact (fun _ => by omega)) (by subst hu61 hu45 hu18; exact (fun _ => by omega)) hf
    refine z_if_lt (tgt := 78) C dX6_readsWell_71 (by decide) (fun c71 => ?_) (fun c71 => ?_)
    · rw [if_pos c71] at hf
      have b71 := c71
      rw [← hu61] at c71
      refine z_iconst (v := (0 : Int32)) C dX6_readsWell_78 (by decide) ?_
      exact J79 (0 : Int32) (by subst hu61 hu45 hu18; exact (by first | exact Or.inl rfl | exact Or.inr rfl)) hf
    · rw [if_neg c71] at hf
      have b71 := c71
      rw [← hu61] at c71
      refine z_iconst (v := (1 : Int32)) C dX6_readsWell_74 (by decide) ?_
      refine z_goto (tgt := 79) C dX6_readsWell_75 (by decide) ?_
      exact J79 (1 : Int32) (by subst hu61 hu45 hu18; exact (by first | exact Or.inl rfl | exact Or.inr rfl)) hf
  · rw [if_neg c23] at hf
    have b23 := c23
    rw [← hu18] at c23
    refine z_iconst (v := (0 : Int32)) C dX6_readsWell_26 (by decide) ?_
    exact z_zretW C hr hlk rfl (by rw [hf]) (by rw [hf]) dX6_readsWell_27
