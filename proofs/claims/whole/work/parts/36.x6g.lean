def popc (s : Nat) : Nat := s % 2 + s / 2 % 2 + s / 4 % 2 + s / 8 % 2 + s / 16 % 2 + s / 32 % 2 + s / 64 % 2 + s / 128 % 2 + s / 256 % 2
set_option maxRecDepth 20000 in
theorem bits_e : ∀ s, s < 512 → F_X6_bits (nI s) = nI (popc s) := by decide +kernel
set_option maxRecDepth 20000 in
theorem isIn_e : ∀ s, s < 512 → ∀ k, k < 9 → (F_X6_isIn (nI s) (nI k) = 0 ↔ s / 2 ^ k % 2 = 0) := by decide +kernel
set_option maxRecDepth 20000 in
theorem or_e : ∀ s, s < 512 → ∀ k, k < 9 → s / 2 ^ k % 2 = 0 → nI s ||| ((1 : Int32) <<< (nI k &&& 31)) = nI (s + 2 ^ k) := by decide +kernel
set_option maxRecDepth 20000 in
theorem popc_or : ∀ s, s < 512 → ∀ k, k < 9 → s / 2 ^ k % 2 = 0 → popc (s + 2 ^ k) = popc s + 1 := by decide +kernel
set_option maxRecDepth 20000 in
theorem bit_lt : ∀ n, n < 10 → ∀ s, s < 2 ^ n → ∀ k, k < n → s / 2 ^ k % 2 = 0 → s + 2 ^ k < 2 ^ n := by decide +kernel
theorem every_e : ∀ n, n < 10 → ((1 : Int32) <<< (nI n &&& 31)) - 1 = nI (2 ^ n) - 1 := by decide +kernel
set_option maxRecDepth 20000 in
theorem popc_le : ∀ n, n < 10 → ∀ s, s < 2 ^ n → popc s ≤ n := by decide +kernel
theorem pow_le : ∀ n, n < 10 → 1 ≤ 2 ^ n ∧ 2 ^ n ≤ 512 := by decide
theorem z_dn0 {x : Int32} {a : Nat} (e : x = nI a - 1) (ha : a < 2 ^ 31) (h : x < 0) : a = 0 := by
  rcases Nat.eq_zero_or_pos a with q | q
  · exact q
  · have e2 : x = nI (a - 1) := by rw [e]; exact pk_sub (b := 1) q
    rw [e2] at h
    exact absurd h (nI_pos (by omega))
-- X6_countWays
theorem i_X6_countWays_6 : ∀ w ∈ u_ws RX6 TX6 30, w ∈ wsX6_countWays := by decide +kernel
theorem m_X6_countWays_1 : Cond.fieldLink RX6 68 "WishPinsModel" "pins" "I" ∈ wsX6_countWays := List.mem_of_getElem? (i := 1) rfl
theorem m_X6_countWays_2 : Cond.fieldLink RX6 37 "WishPinsModel" "waysOn" "[I" ∈ wsX6_countWays := List.mem_of_getElem? (i := 2) rfl
theorem m_X6_countWays_3 : Cond.fieldLink RX6 52 "WishPinsModel" "sheet" "[I" ∈ wsX6_countWays := List.mem_of_getElem? (i := 3) rfl
def F_X6_countWays_k11 (x3_11 : Int32) (wo_11 : Nat → Int32) : (Nat → Int32) :=
  wo_11
def F_X6_countWays_k40 (rec_ : Int32 → (Nat → Int32) → (Nat → Int32)) (x3_11 : Int32) (x5_40 : Int32) (wo_40 : Nat → Int32) : (Nat → Int32) :=
  (rec_ (x3_11 + (-1 : Int32)) wo_40)
def F_X6_countWays_l40 (pn : Int32) (sl : Int32) (dr : Int32) (ko : Nat → Int32) (bo : Nat → Int32) (yo : Nat → Int32) (sh : Nat → Int32) (tf : Int32) (x3_11 : Int32) (K_ : Int32 → (Nat → Int32) → (Nat → Int32)) : Nat → Int32 → (Nat → Int32) → (Nat → Int32)
  | 0, x5_40, wo_40 => K_ x5_40 wo_40
  | d40 + 1, x5_40, wo_40 => (if pn ≤ x5_40 then (K_ x5_40 wo_40) else (if (F_X6_isIn x3_11 x5_40) = 0 then (if (F_X6_mayLie sl dr ko bo yo x5_40 (F_X6_bits x3_11) (sh (tf + (F_X6_bits x3_11)).toNatClampNeg)) = 0 then (F_X6_countWays_l40 pn sl dr ko bo yo sh tf x3_11 K_ d40 (x5_40 + (1 : Int32)) (upd wo_40 x3_11.toNatClampNeg ((wo_40 x3_11.toNatClampNeg) + (0 : Int32)))) else (F_X6_countWays_l40 pn sl dr ko bo yo sh tf x3_11 K_ d40 (x5_40 + (1 : Int32)) (upd wo_40 x3_11.toNatClampNeg ((wo_40 x3_11.toNatClampNeg) + (wo_40 (x3_11 ||| ((1 : Int32) <<< (x5_40 &&& 31))).toNatClampNeg))))) else (F_X6_countWays_l40 pn sl dr ko bo yo sh tf x3_11 K_ d40 (x5_40 + (1 : Int32)) (upd wo_40 x3_11.toNatClampNeg ((wo_40 x3_11.toNatClampNeg) + (0 : Int32))))))
def F_X6_countWays_j36 (rec_ : Int32 → (Nat → Int32) → (Nat → Int32)) (pn : Int32) (sl : Int32) (dr : Int32) (ko : Nat → Int32) (bo : Nat → Int32) (yo : Nat → Int32) (sh : Nat → Int32) (tf : Int32) (x3_11 : Int32) (wo_11 : Nat → Int32) (s2_36 : Int32) : (Nat → Int32) :=
  (F_X6_countWays_l40 pn sl dr ko bo yo sh tf x3_11 (F_X6_countWays_k40 rec_ x3_11) 10 (0 : Int32) (upd wo_11 x3_11.toNatClampNeg s2_36))
def F_X6_countWays_l11 (pn : Int32) (sl : Int32) (dr : Int32) (ko : Nat → Int32) (bo : Nat → Int32) (yo : Nat → Int32) (sh : Nat → Int32) (tf : Int32) (K_ : Int32 → (Nat → Int32) → (Nat → Int32)) : Nat → Int32 → (Nat → Int32) → (Nat → Int32)
  | 0, x3_11, wo_11 => K_ x3_11 wo_11
  | d11 + 1, x3_11, wo_11 => (if x3_11 < 0 then (K_ x3_11 wo_11) else (if x3_11 = (((1 : Int32) <<< (pn &&& 31)) - (1 : Int32)) then (F_X6_countWays_j36 (fun x3_11_r wo_11_r => F_X6_countWays_l11 pn sl dr ko bo yo sh tf K_ d11 x3_11_r wo_11_r) pn sl dr ko bo yo sh tf x3_11 wo_11 (1 : Int32)) else (F_X6_countWays_j36 (fun x3_11_r wo_11_r => F_X6_countWays_l11 pn sl dr ko bo yo sh tf K_ d11 x3_11_r wo_11_r) pn sl dr ko bo yo sh tf x3_11 wo_11 (0 : Int32))))
def F_X6_countWays (pn : Int32) (sl : Int32) (dr : Int32) (ko : Nat → Int32) (bo : Nat → Int32) (yo : Nat → Int32) (wo : Nat → Int32) (sh : Nat → Int32) (tf : Int32) : (Nat → Int32) :=
  (F_X6_countWays_l11 pn sl dr ko bo yo sh tf F_X6_countWays_k11 513 (((1 : Int32) <<< (pn &&& 31)) - (1 : Int32)) wo)
set_option maxHeartbeats 4000000 in
set_option maxRecDepth 100000 in
theorem c_X6_countWays (l : Launch) (D : va_G) (cI cO : ClassId) (h6 : Nat) (q : Nat → Nat) (fl : Int32) (pn : Int32) (sl : Int32) (dr : Int32) (yn : Int32) (ra : Int32) (rp : Int32) (rs : Int32) (rd : Int32) (ry : Int32) (pk : Int32) (yk : Int32) (rg : Int32) (tc : Int32) (ko : Nat → Int32) (bo : Nat → Int32) (yo : Nat → Int32) (wo : Nat → Int32) (sh : Nat → Int32) (tf : Int32) (np : Nat) (f0 : Nat) (hpn : pn = nI np) (hnp : np ≤ 9) (hf0 : tf = nI f0) (hfn : f0 + np ≤ 240) : zW l yX6_countWays wsX6_countWays ({ frames := 3, cells := 0, slots := 0, locals := 65 } : Room) D cI cO [.ref h6, .int tf] [(h6, .inr (6, fM fl pn sl dr yn ra rp rs rd ry pk yk rg tc q)), ((q 5), .inl (cI, 9, .inl ko)), ((q 6), .inl (cI, 9, .inl bo)), ((q 7), .inl (cI, 9, .inl yo)), ((q 21), .inl (cI, 512, .inl wo)), ((q 27), .inl (cI, 240, .inl sh))] [(h6, .inr (6, fM fl pn sl dr yn ra rp rs rd ry pk yk rg tc q)), ((q 5), .inl (cI, 9, .inl ko)), ((q 6), .inl (cI, 9, .inl bo)), ((q 7), .inl (cI, 9, .inl yo)), ((q 21), .inl (cI, 512, .inl (F_X6_countWays pn sl dr ko bo yo wo sh tf))), ((q 27), .inl (cI, 240, .inl sh))] none := by
  refine zW_of (nL := 7) (cc := cX6_countWays) (ret := none) (lv := [(0, .ref h6), (1, .int tf)]) (by decide +kernel) rfl (Nat.le_of_ble_eq_true rfl) rfl (fun p e s m args below meth c C hr hlk => ?_)
  have hf := F_X6_countWays.eq_1 pn sl dr ko bo yo wo sh tf
  refine z_iconst (v := (1 : Int32)) C dX6_countWays_0 (by decide) ?_
  refine z_aload_n C dX6_countWays_1 rfl 0 rfl ?_
  refine z_get (T := TX6) (v := .int pn) C i_X6_countWays_6 0 rfl rfl 1 (by decide) m_X6_countWays_1 rfl rfl dX6_countWays_2 ?_
  refine z_ishl C dX6_countWays_5 ?_
  refine z_iconst (v := (1 : Int32)) C dX6_countWays_6 (by decide) ?_
  refine z_isub C dX6_countWays_7 ?_
  refine z_istore_n C [(0, .ref h6), (1, .int tf), (2, .int (((1 : Int32) <<< (pn &&& 31)) - (1 : Int32)))] dX6_countWays_8 rfl (by decide) [1, 2, 0] rfl ?_
  refine z_iload_n C dX6_countWays_9 rfl 2 rfl ?_
  refine z_istore_n C [(0, .ref h6), (1, .int tf), (2, .int (((1 : Int32) <<< (pn &&& 31)) - (1 : Int32))), (3, .int (((1 : Int32) <<< (pn &&& 31)) - (1 : Int32)))] dX6_countWays_10 rfl (by decide) [1, 2, 3, 0] rfl ?_
  have X11 : ∀ (x3_11 : Int32) (wo_11 : Nat → Int32), F_X6_countWays pn sl dr ko bo yo wo sh tf = F_X6_countWays_k11 x3_11 wo_11 → zG p l e ({ frames := 3, cells := 0, slots := 0, locals := 65 } : Room) s m args below meth c D (zA [(h6, .inr (6, fM fl pn sl dr yn ra rp rs rd ry pk yk rg tc q)), ((q 5), .inl (cI, 9, .inl ko)), ((q 6), .inl (cI, 9, .inl bo)), ((q 7), .inl (cI, 9, .inl yo)), ((q 21), .inl (cI, 512, .inl wo)), ((q 27), .inl (cI, 240, .inl sh))]) (zXw (zA [(h6, .inr (6, fM fl pn sl dr yn ra rp rs rd ry pk yk rg tc q)), ((q 5), .inl (cI, 9, .inl ko)), ((q 6), .inl (cI, 9, .inl bo)), ((q 7), .inl (cI, 9, .inl yo)), ((q 21), .inl (cI, 512, .inl wo)), ((q 27), .inl (cI, 240, .inl sh))]) s.heap) 7 0 0 (MQ below (zQw D [(h6, .inr (6, fM fl pn sl dr yn ra rp rs rd ry pk yk rg tc q)), ((q 5), .inl (cI, 9, .inl ko)), ((q 6), .inl (cI, 9, .inl bo)), ((q 7), .inl (cI, 9, .inl yo)), ((q 21), .inl (cI, 512, .inl (F_X6_countWays pn sl dr ko bo yo wo sh tf))), ((q 27), .inl (cI, 240, .inl sh))] (zA [(h6, .inr (6, fM fl pn sl dr yn ra rp rs rd ry pk yk rg tc q)), ((q 5), .inl (cI, 9, .inl ko)), ((q 6), .inl (cI, 9, .inl bo)), ((q 7), .inl (cI, 9, .inl yo)), ((q 21), .inl (cI, 512, .inl wo)), ((q 27), .inl (cI, 240, .inl sh))]) none) args s 0 0 (zA [(h6, .inr (6, fM fl pn sl dr yn ra rp rs rd ry pk yk rg tc q)), ((q 5), .inl (cI, 9, .inl ko)), ((q 6), .inl (cI, 9, .inl bo)), ((q 7), .inl (cI, 9, .inl yo)), ((q 21), .inl (cI, 512, .inl wo)), ((q 27), .inl (cI, 240, .inl sh))])) 126 [(0, .ref h6), (1, .int tf), (2, .int (((1 : Int32) <<< (pn &&& 31)) - (1 : Int32))), (3, .int x3_11)] [] [(h6, .inr (6, fM fl pn sl dr yn ra rp rs rd ry pk yk rg tc q)), ((q 5), .inl (cI, 9, .inl ko)), ((q 6), .inl (cI, 9, .inl bo)), ((q 7), .inl (cI, 9, .inl yo)), ((q 21), .inl (cI, 512, .inl wo_11)), ((q 27), .inl (cI, 240, .inl sh))] := by
    intro x3_11 wo_11 hf
    rw [F_X6_countWays_k11] at hf
    skip
    exact z_vretW C hr hlk (by rw [hf]) dX6_countWays_126
  have L11 : ∀ (d11 : Nat) (a : Nat) (x3_11 : Int32) (wo_11 : Nat → Int32) (e3 : x3_11 = nI a - 1) (ha : a ≤ 2 ^ np) (hd : a < d11), F_X6_countWays pn sl dr ko bo yo wo sh tf = F_X6_countWays_l11 pn sl dr ko bo yo sh tf F_X6_countWays_k11 d11 x3_11 wo_11 → zG p l e ({ frames := 3, cells := 0, slots := 0, locals := 65 } : Room) s m args below meth c D (zA [(h6, .inr (6, fM fl pn sl dr yn ra rp rs rd ry pk yk rg tc q)), ((q 5), .inl (cI, 9, .inl ko)), ((q 6), .inl (cI, 9, .inl bo)), ((q 7), .inl (cI, 9, .inl yo)), ((q 21), .inl (cI, 512, .inl wo)), ((q 27), .inl (cI, 240, .inl sh))]) (zXw (zA [(h6, .inr (6, fM fl pn sl dr yn ra rp rs rd ry pk yk rg tc q)), ((q 5), .inl (cI, 9, .inl ko)), ((q 6), .inl (cI, 9, .inl bo)), ((q 7), .inl (cI, 9, .inl yo)), ((q 21), .inl (cI, 512, .inl wo)), ((q 27), .inl (cI, 240, .inl sh))]) s.heap) 7 0 0 (MQ below (zQw D [(h6, .inr (6, fM fl pn sl dr yn ra rp rs rd ry pk yk rg tc q)), ((q 5), .inl (cI, 9, .inl ko)), ((q 6), .inl (cI, 9, .inl bo)), ((q 7), .inl (cI, 9, .inl yo)), ((q 21), .inl (cI, 512, .inl (F_X6_countWays pn sl dr ko bo yo wo sh tf))), ((q 27), .inl (cI, 240, .inl sh))] (zA [(h6, .inr (6, fM fl pn sl dr yn ra rp rs rd ry pk yk rg tc q)), ((q 5), .inl (cI, 9, .inl ko)), ((q 6), .inl (cI, 9, .inl bo)), ((q 7), .inl (cI, 9, .inl yo)), ((q 21), .inl (cI, 512, .inl wo)), ((q 27), .inl (cI, 240, .inl sh))]) none) args s 0 0 (zA [(h6, .inr (6, fM fl pn sl dr yn ra rp rs rd ry pk yk rg tc q)), ((q 5), .inl (cI, 9, .inl ko)), ((q 6), .inl (cI, 9, .inl bo)), ((q 7), .inl (cI, 9, .inl yo)), ((q 21), .inl (cI, 512, .inl wo)), ((q 27), .inl (cI, 240, .inl sh))])) 11 [(0, .ref h6), (1, .int tf), (2, .int (((1 : Int32) <<< (pn &&& 31)) - (1 : Int32))), (3, .int x3_11)] [] [(h6, .inr (6, fM fl pn sl dr yn ra rp rs rd ry pk yk rg tc q)), ((q 5), .inl (cI, 9, .inl ko)), ((q 6), .inl (cI, 9, .inl bo)), ((q 7), .inl (cI, 9, .inl yo)), ((q 21), .inl (cI, 512, .inl wo_11)), ((q 27), .inl (cI, 240, .inl sh))] := by
    intro d11
    induction d11 with
    | zero =>
      intro a x3_11 wo_11 e3 ha hd hf
      exfalso; omega
    | succ d11 ih11 =>
      intro a x3_11 wo_11 e3 ha hd hf
      rw [F_X6_countWays_l11] at hf
      have hpw := (pow_le np (by omega)).2
      skip
      refine z_iload_n C dX6_countWays_11 rfl 3 rfl ?_
      refine z_if_lt (tgt := 126) C dX6_countWays_12 (by decide) (fun c12 => ?_) (fun c12 => ?_)
      · rw [if_pos c12] at hf
        exact X11 x3_11 wo_11  hf
      · rw [if_neg c12] at hf
        obtain ⟨ha1, hdn, hx3⟩ := z_dn e3 (by omega) c12
        refine z_iload_n C dX6_countWays_15 rfl 3 rfl ?_
        refine z_cSR (As := [.int x3_11]) C (c_X6_bits l D cI cO x3_11 (a - 1) hx3 (by omega)) (va_cwS 1 C.2.2.2.2.1 gX6_countWays_X6_bits rfl rfl rfl hdS_X6_bits ⟨Nat.le_of_ble_eq_true rfl, Nat.le_of_ble_eq_true rfl⟩) [] rfl rfl rfl _ rfl (Nat.le_of_ble_eq_true rfl) ⟨Nat.zero_le _, Nat.zero_le _⟩ dX6_countWays_16 ?_
        generalize hu16 : (F_X6_bits x3_11) = u16 at hf ⊢
        refine z_istore C [(0, .ref h6), (1, .int tf), (2, .int (((1 : Int32) <<< (pn &&& 31)) - (1 : Int32))), (3, .int x3_11), (4, .int u16)] dX6_countWays_19 (by decide) [1, 2, 3, 4, 0] rfl ?_
        refine z_aload_n C dX6_countWays_21 rfl 0 rfl ?_
        refine z_get (T := TX6) (v := .ref (q 21)) C i_X6_countWays_6 0 rfl rfl 21 (by decide) m_X6_countWays_2 rfl rfl dX6_countWays_22 ?_
        refine z_iload_n C dX6_countWays_25 rfl 3 rfl ?_
        refine z_iload_n C dX6_countWays_26 rfl 3 rfl ?_
        refine z_iload_n C dX6_countWays_27 rfl 2 rfl ?_
        have J36 : ∀ (s2_36 : Int32), F_X6_countWays pn sl dr ko bo yo wo sh tf = F_X6_countWays_j36 (fun x3_11_r wo_11_r => F_X6_countWays_l11 pn sl dr ko bo yo sh tf F_X6_countWays_k11 d11 x3_11_r wo_11_r) pn sl dr ko bo yo sh tf x3_11 wo_11 s2_36 → zG p l e ({ frames := 3, cells := 0, slots := 0, locals := 65 } : Room) s m args below meth c D (zA [(h6, .inr (6, fM fl pn sl dr yn ra rp rs rd ry pk yk rg tc q)), ((q 5), .inl (cI, 9, .inl ko)), ((q 6), .inl (cI, 9, .inl bo)), ((q 7), .inl (cI, 9, .inl yo)), ((q 21), .inl (cI, 512, .inl wo)), ((q 27), .inl (cI, 240, .inl sh))]) (zXw (zA [(h6, .inr (6, fM fl pn sl dr yn ra rp rs rd ry pk yk rg tc q)), ((q 5), .inl (cI, 9, .inl ko)), ((q 6), .inl (cI, 9, .inl bo)), ((q 7), .inl (cI, 9, .inl yo)), ((q 21), .inl (cI, 512, .inl wo)), ((q 27), .inl (cI, 240, .inl sh))]) s.heap) 7 0 0 (MQ below (zQw D [(h6, .inr (6, fM fl pn sl dr yn ra rp rs rd ry pk yk rg tc q)), ((q 5), .inl (cI, 9, .inl ko)), ((q 6), .inl (cI, 9, .inl bo)), ((q 7), .inl (cI, 9, .inl yo)), ((q 21), .inl (cI, 512, .inl (F_X6_countWays pn sl dr ko bo yo wo sh tf))), ((q 27), .inl (cI, 240, .inl sh))] (zA [(h6, .inr (6, fM fl pn sl dr yn ra rp rs rd ry pk yk rg tc q)), ((q 5), .inl (cI, 9, .inl ko)), ((q 6), .inl (cI, 9, .inl bo)), ((q 7), .inl (cI, 9, .inl yo)), ((q 21), .inl (cI, 512, .inl wo)), ((q 27), .inl (cI, 240, .inl sh))]) none) args s 0 0 (zA [(h6, .inr (6, fM fl pn sl dr yn ra rp rs rd ry pk yk rg tc q)), ((q 5), .inl (cI, 9, .inl ko)), ((q 6), .inl (cI, 9, .inl bo)), ((q 7), .inl (cI, 9, .inl yo)), ((q 21), .inl (cI, 512, .inl wo)), ((q 27), .inl (cI, 240, .inl sh))])) 36 [(0, .ref h6), (1, .int tf), (2, .int (((1 : Int32) <<< (pn &&& 31)) - (1 : Int32))), (3, .int x3_11), (4, .int u16)] [.int s2_36, .int x3_11, .ref (q 21)] [(h6, .inr (6, fM fl pn sl dr yn ra rp rs rd ry pk yk rg tc q)), ((q 5), .inl (cI, 9, .inl ko)), ((q 6), .inl (cI, 9, .inl bo)), ((q 7), .inl (cI, 9, .inl yo)), ((q 21), .inl (cI, 512, .inl wo_11)), ((q 27), .inl (cI, 240, .inl sh))] := by
          intro s2_36 hf
          rw [F_X6_countWays_j36] at hf
          skip
          refine z_ast C [(h6, .inr (6, fM fl pn sl dr yn ra rp rs rd ry pk yk rg tc q)), ((q 5), .inl (cI, 9, .inl ko)), ((q 6), .inl (cI, 9, .inl bo)), ((q 7), .inl (cI, 9, .inl yo)), ((q 21), .inl (cI, 512, .inl (upd wo_11 x3_11.toNatClampNeg s2_36))), ((q 27), .inl (cI, 240, .inl sh))] 4 rfl (by subst hu16; exact (z_ixN hx3 (by omega) (by decide))) dX6_countWays_36 rfl ?_
          refine z_iconst (v := (0 : Int32)) C dX6_countWays_37 (by decide) ?_
          refine z_istore C [(0, .ref h6), (1, .int tf), (2, .int (((1 : Int32) <<< (pn &&& 31)) - (1 : Int32))), (3, .int x3_11), (4, .int u16), (5, .int (0 : Int32))] dX6_countWays_38 (by decide) [1, 2, 3, 4, 5, 0] rfl ?_
          have X40 : ∀ (x5_40 : Int32) (wo_40 : Nat → Int32), F_X6_countWays pn sl dr ko bo yo wo sh tf = (F_X6_countWays_k40 (fun x3_11_r wo_11_r => F_X6_countWays_l11 pn sl dr ko bo yo sh tf F_X6_countWays_k11 d11 x3_11_r wo_11_r) x3_11) x5_40 wo_40 → zG p l e ({ frames := 3, cells := 0, slots := 0, locals := 65 } : Room) s m args below meth c D (zA [(h6, .inr (6, fM fl pn sl dr yn ra rp rs rd ry pk yk rg tc q)), ((q 5), .inl (cI, 9, .inl ko)), ((q 6), .inl (cI, 9, .inl bo)), ((q 7), .inl (cI, 9, .inl yo)), ((q 21), .inl (cI, 512, .inl wo)), ((q 27), .inl (cI, 240, .inl sh))]) (zXw (zA [(h6, .inr (6, fM fl pn sl dr yn ra rp rs rd ry pk yk rg tc q)), ((q 5), .inl (cI, 9, .inl ko)), ((q 6), .inl (cI, 9, .inl bo)), ((q 7), .inl (cI, 9, .inl yo)), ((q 21), .inl (cI, 512, .inl wo)), ((q 27), .inl (cI, 240, .inl sh))]) s.heap) 7 0 0 (MQ below (zQw D [(h6, .inr (6, fM fl pn sl dr yn ra rp rs rd ry pk yk rg tc q)), ((q 5), .inl (cI, 9, .inl ko)), ((q 6), .inl (cI, 9, .inl bo)), ((q 7), .inl (cI, 9, .inl yo)), ((q 21), .inl (cI, 512, .inl (F_X6_countWays pn sl dr ko bo yo wo sh tf))), ((q 27), .inl (cI, 240, .inl sh))] (zA [(h6, .inr (6, fM fl pn sl dr yn ra rp rs rd ry pk yk rg tc q)), ((q 5), .inl (cI, 9, .inl ko)), ((q 6), .inl (cI, 9, .inl bo)), ((q 7), .inl (cI, 9, .inl yo)), ((q 21), .inl (cI, 512, .inl wo)), ((q 27), .inl (cI, 240, .inl sh))]) none) args s 0 0 (zA [(h6, .inr (6, fM fl pn sl dr yn ra rp rs rd ry pk yk rg tc q)), ((q 5), .inl (cI, 9, .inl ko)), ((q 6), .inl (cI, 9, .inl bo)), ((q 7), .inl (cI, 9, .inl yo)), ((q 21), .inl (cI, 512, .inl wo)), ((q 27), .inl (cI, 240, .inl sh))])) 120 [(0, .ref h6), (1, .int tf), (2, .int (((1 : Int32) <<< (pn &&& 31)) - (1 : Int32))), (3, .int x3_11), (4, .int u16), (5, .int x5_40)] [] [(h6, .inr (6, fM fl pn sl dr yn ra rp rs rd ry pk yk rg tc q)), ((q 5), .inl (cI, 9, .inl ko)), ((q 6), .inl (cI, 9, .inl bo)), ((q 7), .inl (cI, 9, .inl yo)), ((q 21), .inl (cI, 512, .inl wo_40)), ((q 27), .inl (cI, 240, .inl sh))] := by
            intro x5_40 wo_40 hf
            rw [F_X6_countWays_k40] at hf
            skip
            refine z_iinc (v := (x3_11 + (-1 : Int32))) C [(0, .ref h6), (1, .int tf), (2, .int (((1 : Int32) <<< (pn &&& 31)) - (1 : Int32))), (3, .int (x3_11 + (-1 : Int32))), (4, .int u16), (5, .int x5_40)] dX6_countWays_120 3 rfl (by rfl) (by decide) [1, 2, 3, 0, 4, 5] rfl ?_
            refine z_goto (tgt := 11) C dX6_countWays_123 (by decide) ?_
            refine z_ls [(0, .ref h6), (1, .int tf), (2, .int (((1 : Int32) <<< (pn &&& 31)) - (1 : Int32))), (3, .int (x3_11 + (-1 : Int32)))] [0, 1, 2, 3] rfl ?_
            exact ih11 (a - 1) (x3_11 + (-1 : Int32)) wo_40 (by subst hu16; exact hdn) (by omega) (by omega) hf
          have L40 : ∀ (d40 : Nat) (j : Nat) (x5_40 : Int32) (wo_40 : Nat → Int32) (e5 : x5_40 = nI j) (hj : j ≤ np) (hd : np < j + d40), F_X6_countWays pn sl dr ko bo yo wo sh tf = F_X6_countWays_l40 pn sl dr ko bo yo sh tf x3_11 (F_X6_countWays_k40 (fun x3_11_r wo_11_r => F_X6_countWays_l11 pn sl dr ko bo yo sh tf F_X6_countWays_k11 d11 x3_11_r wo_11_r) x3_11) d40 x5_40 wo_40 → zG p l e ({ frames := 3, cells := 0, slots := 0, locals := 65 } : Room) s m args below meth c D (zA [(h6, .inr (6, fM fl pn sl dr yn ra rp rs rd ry pk yk rg tc q)), ((q 5), .inl (cI, 9, .inl ko)), ((q 6), .inl (cI, 9, .inl bo)), ((q 7), .inl (cI, 9, .inl yo)), ((q 21), .inl (cI, 512, .inl wo)), ((q 27), .inl (cI, 240, .inl sh))]) (zXw (zA [(h6, .inr (6, fM fl pn sl dr yn ra rp rs rd ry pk yk rg tc q)), ((q 5), .inl (cI, 9, .inl ko)), ((q 6), .inl (cI, 9, .inl bo)), ((q 7), .inl (cI, 9, .inl yo)), ((q 21), .inl (cI, 512, .inl wo)), ((q 27), .inl (cI, 240, .inl sh))]) s.heap) 7 0 0 (MQ below (zQw D [(h6, .inr (6, fM fl pn sl dr yn ra rp rs rd ry pk yk rg tc q)), ((q 5), .inl (cI, 9, .inl ko)), ((q 6), .inl (cI, 9, .inl bo)), ((q 7), .inl (cI, 9, .inl yo)), ((q 21), .inl (cI, 512, .inl (F_X6_countWays pn sl dr ko bo yo wo sh tf))), ((q 27), .inl (cI, 240, .inl sh))] (zA [(h6, .inr (6, fM fl pn sl dr yn ra rp rs rd ry pk yk rg tc q)), ((q 5), .inl (cI, 9, .inl ko)), ((q 6), .inl (cI, 9, .inl bo)), ((q 7), .inl (cI, 9, .inl yo)), ((q 21), .inl (cI, 512, .inl wo)), ((q 27), .inl (cI, 240, .inl sh))]) none) args s 0 0 (zA [(h6, .inr (6, fM fl pn sl dr yn ra rp rs rd ry pk yk rg tc q)), ((q 5), .inl (cI, 9, .inl ko)), ((q 6), .inl (cI, 9, .inl bo)), ((q 7), .inl (cI, 9, .inl yo)), ((q 21), .inl (cI, 512, .inl wo)), ((q 27), .inl (cI, 240, .inl sh))])) 40 [(0, .ref h6), (1, .int tf), (2, .int (((1 : Int32) <<< (pn &&& 31)) - (1 : Int32))), (3, .int x3_11), (4, .int u16), (5, .int x5_40)] [] [(h6, .inr (6, fM fl pn sl dr yn ra rp rs rd ry pk yk rg tc q)), ((q 5), .inl (cI, 9, .inl ko)), ((q 6), .inl (cI, 9, .inl bo)), ((q 7), .inl (cI, 9, .inl yo)), ((q 21), .inl (cI, 512, .inl wo_40)), ((q 27), .inl (cI, 240, .inl sh))] := by
            intro d40
            induction d40 with
            | zero =>
              intro j x5_40 wo_40 e5 hj hd hf
              exfalso; omega
            | succ d40 ih40 =>
              intro j x5_40 wo_40 e5 hj hd hf
              rw [F_X6_countWays_l40] at hf
              simp only [hu16] at hf
              refine z_iload C dX6_countWays_40 5 rfl ?_
              refine z_aload_n C dX6_countWays_42 rfl 0 rfl ?_
              refine z_get (T := TX6) (v := .int pn) C i_X6_countWays_6 0 rfl rfl 1 (by decide) m_X6_countWays_1 rfl rfl dX6_countWays_43 ?_
              refine z_icmp_ge (tgt := 120) C dX6_countWays_46 (by decide) (fun c46 => ?_) (fun c46 => ?_)
              · rw [if_pos c46] at hf
                exact X40 x5_40 wo_40  hf
              · rw [if_neg c46] at hf
                refine z_iload_n C dX6_countWays_49 rfl 3 rfl ?_
                refine z_iload C dX6_countWays_50 5 rfl ?_
                refine z_cSR (As := [.int x3_11, .int x5_40]) C (c_X6_isIn l D cI cO x3_11 x5_40) (va_cwS 2 C.2.2.2.2.1 gX6_countWays_X6_isIn rfl rfl rfl hdS_X6_isIn ⟨Nat.le_of_ble_eq_true rfl, Nat.le_of_ble_eq_true rfl⟩) [] rfl rfl rfl _ rfl (Nat.le_of_ble_eq_true rfl) ⟨Nat.zero_le _, Nat.zero_le _⟩ dX6_countWays_52 ?_
                generalize hu52 : (F_X6_isIn x3_11 x5_40) = u52 at hf ⊢
                refine z_if_ne (tgt := 82) C dX6_countWays_55 (by decide) (fun c55 => ?_) (fun c55 => ?_)
                · rw [if_neg c55] at hf
                  have b55 := c55
                  rw [← hu52] at c55
                  refine z_iconst (v := (0 : Int32)) C dX6_countWays_82 (by decide) ?_
                  refine z_istore C [(0, .ref h6), (1, .int tf), (2, .int (((1 : Int32) <<< (pn &&& 31)) - (1 : Int32))), (3, .int x3_11), (4, .int u16), (5, .int x5_40), (6, .int (0 : Int32))] dX6_countWays_83 (by decide) [1, 2, 3, 4, 5, 6, 0] rfl ?_
                  refine z_aload_n C dX6_countWays_85 rfl 0 rfl ?_
                  refine z_get (T := TX6) (v := .ref (q 21)) C i_X6_countWays_6 0 rfl rfl 21 (by decide) m_X6_countWays_2 rfl rfl dX6_countWays_86 ?_
                  refine z_iload_n C dX6_countWays_89 rfl 3 rfl ?_
                  refine z_dup2 C dX6_countWays_90 rfl rfl ?_
                  refine z_ald C 4 rfl (by subst hu52 hu16; exact (z_ixN hx3 (by omega) (by decide))) dX6_countWays_91 ?_
                  refine z_iload C dX6_countWays_92 6 rfl ?_
                  refine z_if_eq (tgt := 111) C dX6_countWays_94 (by decide) (fun _ => ?_) (fun h9 => absurd h9 (by decide))
                  refine z_iconst (v := (0 : Int32)) C dX6_countWays_111 (by decide) ?_
                  refine z_iadd C dX6_countWays_112 ?_
                  refine z_ast C [(h6, .inr (6, fM fl pn sl dr yn ra rp rs rd ry pk yk rg tc q)), ((q 5), .inl (cI, 9, .inl ko)), ((q 6), .inl (cI, 9, .inl bo)), ((q 7), .inl (cI, 9, .inl yo)), ((q 21), .inl (cI, 512, .inl (upd wo_40 x3_11.toNatClampNeg ((wo_40 x3_11.toNatClampNeg) + (0 : Int32))))), ((q 27), .inl (cI, 240, .inl sh))] 4 rfl (by subst hu52 hu16; exact (z_ixN hx3 (by omega) (by decide))) dX6_countWays_113 rfl ?_
                  refine z_iinc (v := (x5_40 + (1 : Int32))) C [(0, .ref h6), (1, .int tf), (2, .int (((1 : Int32) <<< (pn &&& 31)) - (1 : Int32))), (3, .int x3_11), (4, .int u16), (5, .int (x5_40 + (1 : Int32))), (6, .int (0 : Int32))] dX6_countWays_114 5 rfl (by rfl) (by decide) [1, 2, 3, 4, 5, 0, 6] rfl ?_
                  refine z_goto (tgt := 40) C dX6_countWays_117 (by decide) ?_
                  refine z_ls [(0, .ref h6), (1, .int tf), (2, .int (((1 : Int32) <<< (pn &&& 31)) - (1 : Int32))), (3, .int x3_11), (4, .int u16), (5, .int (x5_40 + (1 : Int32)))] [0, 1, 2, 3, 4, 5] rfl ?_
                  exact ih40 (j + 1) (x5_40 + (1 : Int32)) (upd wo_40 x3_11.toNatClampNeg ((wo_40 x3_11.toNatClampNeg) + (0 : Int32))) (by subst hu52 hu16; exact (by rw [e5]; exact nI_1 j)) (by subst hu52 hu16; exact (by have := z_jlt e5 (by omega) (z_tiN hpn (by omega)) c46; omega)) (by omega) hf
                · rw [if_pos c55] at hf
                  have b55 := c55
                  rw [← hu52] at c55
                  have hj2 := z_jlt e5 (by omega) (z_tiN hpn (by omega)) c46
                  have hin := (isIn_e (a - 1) (by omega) j (by omega)).mp (by rw [← hx3, ← e5]; exact c55)
                  have hlt := bit_lt np (by omega) (a - 1) (by omega) j hj2 hin
                  have hpc := popc_or (a - 1) (by omega) j (by omega) hin
                  have hpl := popc_le np (by omega) _ hlt
                  have hat : u16 = nI (popc (a - 1)) := by rw [← hu16, hx3]; exact bits_e (a - 1) (by omega)
                  refine z_aload_n C dX6_countWays_58 rfl 0 rfl ?_
                  refine z_iload C dX6_countWays_59 5 rfl ?_
                  refine z_iload C dX6_countWays_61 4 rfl ?_
                  refine z_aload_n C dX6_countWays_63 rfl 0 rfl ?_
                  refine z_get (T := TX6) (v := .ref (q 27)) C i_X6_countWays_6 0 rfl rfl 27 (by decide) m_X6_countWays_3 rfl rfl dX6_countWays_64 ?_
                  refine z_iload_n C dX6_countWays_67 rfl 1 rfl ?_
                  refine z_iload C dX6_countWays_68 4 rfl ?_
                  refine z_iadd C dX6_countWays_70 ?_
                  refine z_ald C 5 rfl (by subst hu52 hu16; exact (z_ixN (by rw [hf0, hat]; exact nI_add _ _) (show f0 + popc (a - 1) < 240 by omega) (by decide))) dX6_countWays_71 ?_
                  refine z_cVR (As := [.int x5_40, .int u16, .int (sh (tf + u16).toNatClampNeg)]) C (c_X6_mayLie l D cI cO h6 q fl pn sl dr yn ra rp rs rd ry pk yk rg tc ko bo yo x5_40 u16 (sh (tf + u16).toNatClampNeg) (by subst hu52 hu16; exact (z_ix9 e5 (by omega))) (by subst hu52 hu16; exact (z_ix9 hat (by omega)))) (cwV 3 C.2.2.2.2.1 gX6_countWays_X6_mayLie rfl rfl rfl hdV_X6_mayLie ⟨Nat.le_of_ble_eq_true rfl, Nat.le_of_ble_eq_true rfl⟩) [0, 1, 2, 3] rfl rfl 0 rfl rfl rfl _ rfl (Nat.le_of_ble_eq_true rfl) ⟨Nat.zero_le _, Nat.zero_le _⟩ dX6_countWays_72 ?_
                  generalize hu72 : (F_X6_mayLie sl dr ko bo yo x5_40 u16 (sh (tf + u16).toNatClampNeg)) = u72 at hf ⊢
                  refine z_if_eq (tgt := 82) C dX6_countWays_75 (by decide) (fun c75 => ?_) (fun c75 => ?_)
                  · rw [if_pos c75] at hf
                    have b75 := c75
                    rw [← hu72] at c75
                    refine z_iconst (v := (0 : Int32)) C dX6_countWays_82 (by decide) ?_
                    refine z_istore C [(0, .ref h6), (1, .int tf), (2, .int (((1 : Int32) <<< (pn &&& 31)) - (1 : Int32))), (3, .int x3_11), (4, .int u16), (5, .int x5_40), (6, .int (0 : Int32))] dX6_countWays_83 (by decide) [1, 2, 3, 4, 5, 6, 0] rfl ?_
                    refine z_aload_n C dX6_countWays_85 rfl 0 rfl ?_
                    refine z_get (T := TX6) (v := .ref (q 21)) C i_X6_countWays_6 0 rfl rfl 21 (by decide) m_X6_countWays_2 rfl rfl dX6_countWays_86 ?_
                    refine z_iload_n C dX6_countWays_89 rfl 3 rfl ?_
                    refine z_dup2 C dX6_countWays_90 rfl rfl ?_
                    refine z_ald C 4 rfl (by subst hu72 hu52 hu16; exact (z_ixN hx3 (by omega) (by decide))) dX6_countWays_91 ?_
                    refine z_iload C dX6_countWays_92 6 rfl ?_
                    refine z_if_eq (tgt := 111) C dX6_countWays_94 (by decide) (fun _ => ?_) (fun h9 => absurd h9 (by decide))
                    refine z_iconst (v := (0 : Int32)) C dX6_countWays_111 (by decide) ?_
                    refine z_iadd C dX6_countWays_112 ?_
                    refine z_ast C [(h6, .inr (6, fM fl pn sl dr yn ra rp rs rd ry pk yk rg tc q)), ((q 5), .inl (cI, 9, .inl ko)), ((q 6), .inl (cI, 9, .inl bo)), ((q 7), .inl (cI, 9, .inl yo)), ((q 21), .inl (cI, 512, .inl (upd wo_40 x3_11.toNatClampNeg ((wo_40 x3_11.toNatClampNeg) + (0 : Int32))))), ((q 27), .inl (cI, 240, .inl sh))] 4 rfl (by subst hu72 hu52 hu16; exact (z_ixN hx3 (by omega) (by decide))) dX6_countWays_113 rfl ?_
                    refine z_iinc (v := (x5_40 + (1 : Int32))) C [(0, .ref h6), (1, .int tf), (2, .int (((1 : Int32) <<< (pn &&& 31)) - (1 : Int32))), (3, .int x3_11), (4, .int u16), (5, .int (x5_40 + (1 : Int32))), (6, .int (0 : Int32))] dX6_countWays_114 5 rfl (by rfl) (by decide) [1, 2, 3, 4, 5, 0, 6] rfl ?_
                    refine z_goto (tgt := 40) C dX6_countWays_117 (by decide) ?_
                    refine z_ls [(0, .ref h6), (1, .int tf), (2, .int (((1 : Int32) <<< (pn &&& 31)) - (1 : Int32))), (3, .int x3_11), (4, .int u16), (5, .int (x5_40 + (1 : Int32)))] [0, 1, 2, 3, 4, 5] rfl ?_
                    exact ih40 (j + 1) (x5_40 + (1 : Int32)) (upd wo_40 x3_11.toNatClampNeg ((wo_40 x3_11.toNatClampNeg) + (0 : Int32))) (by subst hu72 hu52 hu16; exact (by rw [e5]; exact nI_1 j)) (by subst hu72 hu52 hu16; exact (by have := z_jlt e5 (by omega) (z_tiN hpn (by omega)) c46; omega)) (by omega) hf
                  · rw [if_neg c75] at hf
                    have b75 := c75
                    rw [← hu72] at c75
                    refine z_iconst (v := (1 : Int32)) C dX6_countWays_78 (by decide) ?_
                    refine z_goto (tgt := 83) C dX6_countWays_79 (by decide) ?_
                    refine z_istore C [(0, .ref h6), (1, .int tf), (2, .int (((1 : Int32) <<< (pn &&& 31)) - (1 : Int32))), (3, .int x3_11), (4, .int u16), (5, .int x5_40), (6, .int (1 : Int32))] dX6_countWays_83 (by decide) [1, 2, 3, 4, 5, 6, 0] rfl ?_
                    refine z_aload_n C dX6_countWays_85 rfl 0 rfl ?_
                    refine z_get (T := TX6) (v := .ref (q 21)) C i_X6_countWays_6 0 rfl rfl 21 (by decide) m_X6_countWays_2 rfl rfl dX6_countWays_86 ?_
                    refine z_iload_n C dX6_countWays_89 rfl 3 rfl ?_
                    refine z_dup2 C dX6_countWays_90 rfl rfl ?_
                    refine z_ald C 4 rfl (by subst hu72 hu52 hu16; exact (z_ixN hx3 (by omega) (by decide))) dX6_countWays_91 ?_
                    refine z_iload C dX6_countWays_92 6 rfl ?_
                    refine z_if_eq (tgt := 111) C dX6_countWays_94 (by decide) (fun h9 => absurd h9 (by decide)) (fun _ => ?_)
                    refine z_aload_n C dX6_countWays_97 rfl 0 rfl ?_
                    refine z_get (T := TX6) (v := .ref (q 21)) C i_X6_countWays_6 0 rfl rfl 21 (by decide) m_X6_countWays_2 rfl rfl dX6_countWays_98 ?_
                    refine z_iload_n C dX6_countWays_101 rfl 3 rfl ?_
                    refine z_iconst (v := (1 : Int32)) C dX6_countWays_102 (by decide) ?_
                    refine z_iload C dX6_countWays_103 5 rfl ?_
                    refine z_ishl C dX6_countWays_105 ?_
                    refine z_ior C dX6_countWays_106 ?_
                    refine z_ald C 4 rfl (by subst hu72 hu52 hu16; exact (z_ixN (by rw [hx3, e5]; exact or_e (a - 1) (by omega) j (by omega) hin) (show a - 1 + 2 ^ j < 512 by omega) (by decide))) dX6_countWays_107 ?_
                    refine z_goto (tgt := 112) C dX6_countWays_108 (by decide) ?_
                    refine z_iadd C dX6_countWays_112 ?_
                    refine z_ast C [(h6, .inr (6, fM fl pn sl dr yn ra rp rs rd ry pk yk rg tc q)), ((q 5), .inl (cI, 9, .inl ko)), ((q 6), .inl (cI, 9, .inl bo)), ((q 7), .inl (cI, 9, .inl yo)), ((q 21), .inl (cI, 512, .inl (upd wo_40 x3_11.toNatClampNeg ((wo_40 x3_11.toNatClampNeg) + (wo_40 (x3_11 ||| ((1 : Int32) <<< (x5_40 &&& 31))).toNatClampNeg))))), ((q 27), .inl (cI, 240, .inl sh))] 4 rfl (by subst hu72 hu52 hu16; exact (z_ixN hx3 (by omega) (by decide))) dX6_countWays_113 rfl ?_
                    refine z_iinc (v := (x5_40 + (1 : Int32))) C [(0, .ref h6), (1, .int tf), (2, .int (((1 : Int32) <<< (pn &&& 31)) - (1 : Int32))), (3, .int x3_11), (4, .int u16), (5, .int (x5_40 + (1 : Int32))), (6, .int (1 : Int32))] dX6_countWays_114 5 rfl (by rfl) (by decide) [1, 2, 3, 4, 5, 0, 6] rfl ?_
                    refine z_goto (tgt := 40) C dX6_countWays_117 (by decide) ?_
                    refine z_ls [(0, .ref h6), (1, .int tf), (2, .int (((1 : Int32) <<< (pn &&& 31)) - (1 : Int32))), (3, .int x3_11), (4, .int u16), (5, .int (x5_40 + (1 : Int32)))] [0, 1, 2, 3, 4, 5] rfl ?_
                    exact ih40 (j + 1) (x5_40 + (1 : Int32)) (upd wo_40 x3_11.toNatClampNeg ((wo_40 x3_11.toNatClampNeg) + (wo_40 (x3_11 ||| ((1 : Int32) <<< (x5_40 &&& 31))).toNatClampNeg))) (by subst hu72 hu52 hu16; exact (by rw [e5]; exact nI_1 j)) (by subst hu72 hu52 hu16; exact (by have := z_jlt e5 (by omega) (z_tiN hpn (by omega)) c46; omega)) (by omega) hf
          exact L40 10 0 (0 : Int32) (upd wo_11 x3_11.toNatClampNeg s2_36) (by subst hu16; exact nI_0.symm) (by subst hu16; exact (Nat.zero_le _)) (by omega) hf
        refine z_icmp_ne (tgt := 35) C dX6_countWays_28 (by decide) (fun c28 => ?_) (fun c28 => ?_)
        · rw [if_neg c28] at hf
          refine z_iconst (v := (0 : Int32)) C dX6_countWays_35 (by decide) ?_
          exact J36 (0 : Int32)  hf
        · rw [if_pos c28] at hf
          refine z_iconst (v := (1 : Int32)) C dX6_countWays_31 (by decide) ?_
          refine z_goto (tgt := 36) C dX6_countWays_32 (by decide) ?_
          exact J36 (1 : Int32)  hf
  exact L11 513 (2 ^ np) (((1 : Int32) <<< (pn &&& 31)) - (1 : Int32)) wo (by rw [hpn]; exact every_e np (by omega)) (Nat.le_refl _) (by have := (pow_le np (by omega)).2; omega) hf
def fiOK (sl dr : Int32) (ko bo yo sh wo : Nat → Int32) (f0 s j k : Nat) : Prop := s / 2 ^ k % 2 = 0 ∧ ¬ F_X6_mayLie sl dr ko bo yo (nI k) (nI j) (sh (f0 + j)) = 0 ∧ 0 < wo (s + 2 ^ k)
theorem fi_no {P : Nat → Prop} {X : Prop} {b np : Nat} (hi : X ∨ ∀ k, b ≤ k → k < np → ¬ P k) (hb : ¬ P (b - 1)) : X ∨ ∀ k, b - 1 ≤ k → k < np → ¬ P k := by
  rcases hi with h | h
  · exact Or.inl h
  · refine Or.inr (fun k h1 h2 => ?_)
    rcases (by omega : k = b - 1 ∨ b ≤ k) with q | q
    · rw [q]; exact hb
    · exact h k q h2
theorem fi_a {sl dr : Int32} {ko bo yo sh wo : Nat → Int32} {f0 s j k : Nat} {x3 x6 : Int32} (h3 : x3 = nI s) (hs : s < 512) (h6 : x6 = nI k) (hk : k < 9) (c : ¬ F_X6_isIn x3 x6 = 0) : ¬ fiOK sl dr ko bo yo sh wo f0 s j k := fun q => c (by rw [h3, h6]; exact (isIn_e s hs k hk).mpr q.1)
theorem fi_ix {tf x5 : Int32} {f0 j : Nat} (hf : tf = nI f0) (h5 : x5 = nI j) (h : f0 + j < 240) : (tf + x5).toNatClampNeg = f0 + j := by rw [hf, h5, nI_add]; exact nI_clamp (by omega)
theorem fi_b {sl dr : Int32} {ko bo yo sh wo : Nat → Int32} {f0 s j k : Nat} {tf x5 x6 : Int32} (hf : tf = nI f0) (h5 : x5 = nI j) (h : f0 + j < 240) (h6 : x6 = nI k) (c : F_X6_mayLie sl dr ko bo yo x6 x5 (sh (tf + x5).toNatClampNeg) = 0) : ¬ fiOK sl dr ko bo yo sh wo f0 s j k := fun q => q.2.1 (by rw [fi_ix hf h5 h, h5, h6] at c; exact c)
theorem fi_c {sl dr : Int32} {ko bo yo sh wo : Nat → Int32} {f0 s j k : Nat} {x3 x6 : Int32} (h3 : x3 = nI s) (hs : s < 512) (h6 : x6 = nI k) (hk : k < 9) (hin : s / 2 ^ k % 2 = 0) (hl : s + 2 ^ k < 512) (c : wo (x3 ||| ((1 : Int32) <<< (x6 &&& 31))).toNatClampNeg ≤ 0) : ¬ fiOK sl dr ko bo yo sh wo f0 s j k := fun q => by
  rw [h3, h6, or_e s hs k hk hin, nI_clamp (by omega)] at c
  exact Int32.not_lt.mpr c q.2.2
theorem fi_d {sl dr : Int32} {ko bo yo sh wo : Nat → Int32} {f0 s j k : Nat} {tf x3 x5 x6 : Int32} (hf : tf = nI f0) (h5 : x5 = nI j) (h : f0 + j < 240) (h3 : x3 = nI s) (hs : s < 512) (h6 : x6 = nI k) (hk : k < 9) (hin : s / 2 ^ k % 2 = 0) (hl : s + 2 ^ k < 512) (c1 : ¬ F_X6_mayLie sl dr ko bo yo x6 x5 (sh (tf + x5).toNatClampNeg) = 0) (c2 : ¬ wo (x3 ||| ((1 : Int32) <<< (x6 &&& 31))).toNatClampNeg ≤ 0) : fiOK sl dr ko bo yo sh wo f0 s j k := by
  rw [h3, h6, or_e s hs k hk hin, nI_clamp (by omega)] at c2
  rw [fi_ix hf h5 h, h5, h6] at c1
  exact ⟨hin, c1, Int32.not_le.mp c2⟩
-- X6_firstIn
theorem i_X6_firstIn_6 : ∀ w ∈ u_ws RX6 TX6 30, w ∈ wsX6_firstIn := by decide +kernel
theorem m_X6_firstIn_1 : Cond.fieldLink RX6 68 "WishPinsModel" "pins" "I" ∈ wsX6_firstIn := List.mem_of_getElem? (i := 1) rfl
theorem m_X6_firstIn_2 : Cond.fieldLink RX6 52 "WishPinsModel" "sheet" "[I" ∈ wsX6_firstIn := List.mem_of_getElem? (i := 2) rfl
theorem m_X6_firstIn_3 : Cond.fieldLink RX6 37 "WishPinsModel" "waysOn" "[I" ∈ wsX6_firstIn := List.mem_of_getElem? (i := 3) rfl
def F_X6_firstIn_k9 (x3_9 : Int32) (x4_9 : Int32) (x5_9 : Int32) : Int32 :=
  x4_9
def F_X6_firstIn_k27 (rec_ : Int32 → Int32 → Int32 → Int32) (x3_9 : Int32) (x5_9 : Int32) (x4_27 : Int32) (x6_27 : Int32) : Int32 :=
  (rec_ (x3_9 ||| ((1 : Int32) <<< (x4_27 &&& 31))) x4_27 (x5_9 + (1 : Int32)))
def F_X6_firstIn_l27 (sl : Int32) (dr : Int32) (ko : Nat → Int32) (bo : Nat → Int32) (yo : Nat → Int32) (wo : Nat → Int32) (sh : Nat → Int32) (tf : Int32) (x3_9 : Int32) (x5_9 : Int32) (K_ : Int32 → Int32 → Int32) : Nat → Int32 → Int32 → Int32
  | 0, x4_27, x6_27 => K_ x4_27 x6_27
  | d27 + 1, x4_27, x6_27 => (if x6_27 < 0 then (K_ x4_27 x6_27) else (if (F_X6_isIn x3_9 x6_27) = 0 then (if (F_X6_mayLie sl dr ko bo yo x6_27 x5_9 (sh (tf + x5_9).toNatClampNeg)) = 0 then (F_X6_firstIn_l27 sl dr ko bo yo wo sh tf x3_9 x5_9 K_ d27 x4_27 (x6_27 + (-1 : Int32))) else (if (wo (x3_9 ||| ((1 : Int32) <<< (x6_27 &&& 31))).toNatClampNeg) ≤ 0 then (F_X6_firstIn_l27 sl dr ko bo yo wo sh tf x3_9 x5_9 K_ d27 x4_27 (x6_27 + (-1 : Int32))) else (F_X6_firstIn_l27 sl dr ko bo yo wo sh tf x3_9 x5_9 K_ d27 x6_27 (x6_27 + (-1 : Int32))))) else (F_X6_firstIn_l27 sl dr ko bo yo wo sh tf x3_9 x5_9 K_ d27 x4_27 (x6_27 + (-1 : Int32)))))
def F_X6_firstIn_l9 (pn : Int32) (sl : Int32) (dr : Int32) (ko : Nat → Int32) (bo : Nat → Int32) (yo : Nat → Int32) (wo : Nat → Int32) (sh : Nat → Int32) (tf : Int32) (pl : Int32) (K_ : Int32 → Int32 → Int32 → Int32) : Nat → Int32 → Int32 → Int32 → Int32
  | 0, x3_9, x4_9, x5_9 => K_ x3_9 x4_9 x5_9
  | d9 + 1, x3_9, x4_9, x5_9 => (if pl < x5_9 then (K_ x3_9 x4_9 x5_9) else (F_X6_firstIn_l27 sl dr ko bo yo wo sh tf x3_9 x5_9 (F_X6_firstIn_k27 (fun x3_9_r x4_9_r x5_9_r => F_X6_firstIn_l9 pn sl dr ko bo yo wo sh tf pl K_ d9 x3_9_r x4_9_r x5_9_r) x3_9 x5_9) 10 (-9 : Int32) (pn - (1 : Int32))))
def F_X6_firstIn (pn : Int32) (sl : Int32) (dr : Int32) (ko : Nat → Int32) (bo : Nat → Int32) (yo : Nat → Int32) (wo : Nat → Int32) (sh : Nat → Int32) (tf : Int32) (pl : Int32) : Int32 :=
  (F_X6_firstIn_l9 pn sl dr ko bo yo wo sh tf pl F_X6_firstIn_k9 11 (0 : Int32) (-9 : Int32) (0 : Int32))
set_option maxHeartbeats 4000000 in
set_option maxRecDepth 100000 in
theorem c_X6_firstIn (l : Launch) (D : va_G) (cI cO : ClassId) (h6 : Nat) (q : Nat → Nat) (fl : Int32) (pn : Int32) (sl : Int32) (dr : Int32) (yn : Int32) (ra : Int32) (rp : Int32) (rs : Int32) (rd : Int32) (ry : Int32) (pk : Int32) (yk : Int32) (rg : Int32) (tc : Int32) (ko : Nat → Int32) (bo : Nat → Int32) (yo : Nat → Int32) (wo : Nat → Int32) (sh : Nat → Int32) (tf : Int32) (pl : Int32) (np : Nat) (f0 : Nat) (p0 : Nat) (hpn : pn = nI np) (hnp : np ≤ 9) (hf0 : tf = nI f0) (hfn : f0 + np ≤ 240) (hp : pl = nI p0) (hp0 : p0 < np) (hw0 : 0 < wo 0) (hW : ∀ s, s < 2 ^ np → popc s < np → 0 < wo s → ∃ k, k < np ∧ fiOK sl dr ko bo yo sh wo f0 s (popc s) k) : zR l yX6_firstIn wsX6_firstIn ({ frames := 3, cells := 0, slots := 0, locals := 65 } : Room) D cI cO [.ref h6, .int tf, .int pl] [(h6, .inr (6, fM fl pn sl dr yn ra rp rs rd ry pk yk rg tc q)), ((q 5), .inl (cI, 9, .inl ko)), ((q 6), .inl (cI, 9, .inl bo)), ((q 7), .inl (cI, 9, .inl yo)), ((q 21), .inl (cI, 512, .inl wo)), ((q 27), .inl (cI, 240, .inl sh))] (some (.int (F_X6_firstIn pn sl dr ko bo yo wo sh tf pl))) := by
  refine zR_of (nL := 8) (cc := cX6_firstIn) (ret := some .int) (lv := [(0, .ref h6), (1, .int tf), (2, .int pl)]) (by decide +kernel) rfl (Nat.le_of_ble_eq_true rfl) rfl (fun p e s m args below meth c C hr hlk => ?_)
  have hf := F_X6_firstIn.eq_1 pn sl dr ko bo yo wo sh tf pl
  refine z_iconst (v := (0 : Int32)) C dX6_firstIn_0 (by decide) ?_
  refine z_istore_n C [(0, .ref h6), (1, .int tf), (2, .int pl), (3, .int (0 : Int32))] dX6_firstIn_1 rfl (by decide) [1, 2, 3, 0] rfl ?_
  refine z_bipush (v := (-9 : Int32)) C dX6_firstIn_2 (by decide) ?_
  refine z_istore C [(0, .ref h6), (1, .int tf), (2, .int pl), (3, .int (0 : Int32)), (4, .int (-9 : Int32))] dX6_firstIn_4 (by decide) [1, 2, 3, 4, 0] rfl ?_
  refine z_iconst (v := (0 : Int32)) C dX6_firstIn_6 (by decide) ?_
  refine z_istore C [(0, .ref h6), (1, .int tf), (2, .int pl), (3, .int (0 : Int32)), (4, .int (-9 : Int32)), (5, .int (0 : Int32))] dX6_firstIn_7 (by decide) [1, 2, 3, 4, 5, 0] rfl ?_
  have X9 : ∀ (x3_9 : Int32) (x4_9 : Int32) (x5_9 : Int32), F_X6_firstIn pn sl dr ko bo yo wo sh tf pl = F_X6_firstIn_k9 x3_9 x4_9 x5_9 → zG p l e ({ frames := 3, cells := 0, slots := 0, locals := 65 } : Room) s m args below meth c D (fun _ => True) (zXr s) 8 0 0 (MQ below (zQr (some (.int (F_X6_firstIn pn sl dr ko bo yo wo sh tf pl)))) args s 0 0 (fun _ => False)) 115 [(0, .ref h6), (1, .int tf), (2, .int pl), (3, .int x3_9), (4, .int x4_9), (5, .int x5_9)] [] [(h6, .inr (6, fM fl pn sl dr yn ra rp rs rd ry pk yk rg tc q)), ((q 5), .inl (cI, 9, .inl ko)), ((q 6), .inl (cI, 9, .inl bo)), ((q 7), .inl (cI, 9, .inl yo)), ((q 21), .inl (cI, 512, .inl wo)), ((q 27), .inl (cI, 240, .inl sh))] := by
    intro x3_9 x4_9 x5_9 hf
    rw [F_X6_firstIn_k9] at hf
    skip
    refine z_iload C dX6_firstIn_115 4 rfl ?_
    exact z_iretR C hr hlk (by rw [hf]) dX6_firstIn_117
  have L9 : ∀ (d9 : Nat) (sg j : Nat) (x3_9 : Int32) (x4_9 : Int32) (x5_9 : Int32) (e3 : x3_9 = nI sg) (e5 : x5_9 = nI j) (hs : sg < 2 ^ np) (hsj : popc sg = j) (hsw : 0 < wo sg) (hj : j ≤ p0 + 1) (hd : p0 + 1 < j + d9), F_X6_firstIn pn sl dr ko bo yo wo sh tf pl = F_X6_firstIn_l9 pn sl dr ko bo yo wo sh tf pl F_X6_firstIn_k9 d9 x3_9 x4_9 x5_9 → zG p l e ({ frames := 3, cells := 0, slots := 0, locals := 65 } : Room) s m args below meth c D (fun _ => True) (zXr s) 8 0 0 (MQ below (zQr (some (.int (F_X6_firstIn pn sl dr ko bo yo wo sh tf pl)))) args s 0 0 (fun _ => False)) 9 [(0, .ref h6), (1, .int tf), (2, .int pl), (3, .int x3_9), (4, .int x4_9), (5, .int x5_9)] [] [(h6, .inr (6, fM fl pn sl dr yn ra rp rs rd ry pk yk rg tc q)), ((q 5), .inl (cI, 9, .inl ko)), ((q 6), .inl (cI, 9, .inl bo)), ((q 7), .inl (cI, 9, .inl yo)), ((q 21), .inl (cI, 512, .inl wo)), ((q 27), .inl (cI, 240, .inl sh))] := by
    intro d9
    induction d9 with
    | zero =>
      intro sg j x3_9 x4_9 x5_9 e3 e5 hs hsj hsw hj hd hf
      exfalso; omega
    | succ d9 ih9 =>
      intro sg j x3_9 x4_9 x5_9 e3 e5 hs hsj hsw hj hd hf
      rw [F_X6_firstIn_l9] at hf
      have hpw := (pow_le np (by omega)).2
      skip
      refine z_iload C dX6_firstIn_9 5 rfl ?_
      refine z_iload_n C dX6_firstIn_11 rfl 2 rfl ?_
      refine z_icmp_gt (tgt := 115) C dX6_firstIn_12 (by decide) (fun c12 => ?_) (fun c12 => ?_)
      · rw [if_pos c12] at hf
        exact X9 x3_9 x4_9 x5_9  hf
      · rw [if_neg c12] at hf
        have hjp := z_jle e5 (by omega) (z_tiN hp (by omega)) c12
        refine z_bipush (v := (-9 : Int32)) C dX6_firstIn_15 (by decide) ?_
        refine z_istore C [(0, .ref h6), (1, .int tf), (2, .int pl), (3, .int x3_9), (4, .int (-9 : Int32)), (5, .int x5_9)] dX6_firstIn_17 (by decide) [1, 2, 3, 4, 0, 5] rfl ?_
        refine z_aload_n C dX6_firstIn_19 rfl 0 rfl ?_
        refine z_get (T := TX6) (v := .int pn) C i_X6_firstIn_6 0 rfl rfl 1 (by decide) m_X6_firstIn_1 rfl rfl dX6_firstIn_20 ?_
        refine z_iconst (v := (1 : Int32)) C dX6_firstIn_23 (by decide) ?_
        refine z_isub C dX6_firstIn_24 ?_
        refine z_istore C [(0, .ref h6), (1, .int tf), (2, .int pl), (3, .int x3_9), (4, .int (-9 : Int32)), (5, .int x5_9), (6, .int (pn - (1 : Int32)))] dX6_firstIn_25 (by decide) [1, 2, 3, 4, 5, 6, 0] rfl ?_
        have X27 : ∀ (x4_27 : Int32) (x6_27 : Int32) (hix : ∃ k, k < np ∧ fiOK sl dr ko bo yo sh wo f0 sg j k ∧ x4_27 = nI k), F_X6_firstIn pn sl dr ko bo yo wo sh tf pl = (F_X6_firstIn_k27 (fun x3_9_r x4_9_r x5_9_r => F_X6_firstIn_l9 pn sl dr ko bo yo wo sh tf pl F_X6_firstIn_k9 d9 x3_9_r x4_9_r x5_9_r) x3_9 x5_9) x4_27 x6_27 → zG p l e ({ frames := 3, cells := 0, slots := 0, locals := 65 } : Room) s m args below meth c D (fun _ => True) (zXr s) 8 0 0 (MQ below (zQr (some (.int (F_X6_firstIn pn sl dr ko bo yo wo sh tf pl)))) args s 0 0 (fun _ => False)) 102 [(0, .ref h6), (1, .int tf), (2, .int pl), (3, .int x3_9), (4, .int x4_27), (5, .int x5_9), (6, .int x6_27)] [] [(h6, .inr (6, fM fl pn sl dr yn ra rp rs rd ry pk yk rg tc q)), ((q 5), .inl (cI, 9, .inl ko)), ((q 6), .inl (cI, 9, .inl bo)), ((q 7), .inl (cI, 9, .inl yo)), ((q 21), .inl (cI, 512, .inl wo)), ((q 27), .inl (cI, 240, .inl sh))] := by
          intro x4_27 x6_27 hix hf
          rw [F_X6_firstIn_k27] at hf
          skip
          obtain ⟨kk, hkk, hok, hxk⟩ := hix
          refine z_iload_n C dX6_firstIn_102 rfl 3 rfl ?_
          refine z_iconst (v := (1 : Int32)) C dX6_firstIn_103 (by decide) ?_
          refine z_iload C dX6_firstIn_104 4 rfl ?_
          refine z_ishl C dX6_firstIn_106 ?_
          refine z_ior C dX6_firstIn_107 ?_
          refine z_istore_n C [(0, .ref h6), (1, .int tf), (2, .int pl), (3, .int (x3_9 ||| ((1 : Int32) <<< (x4_27 &&& 31)))), (4, .int x4_27), (5, .int x5_9), (6, .int x6_27)] dX6_firstIn_108 rfl (by decide) [1, 2, 3, 0, 4, 5, 6] rfl ?_
          refine z_iinc (v := (x5_9 + (1 : Int32))) C [(0, .ref h6), (1, .int tf), (2, .int pl), (3, .int (x3_9 ||| ((1 : Int32) <<< (x4_27 &&& 31)))), (4, .int x4_27), (5, .int (x5_9 + (1 : Int32))), (6, .int x6_27)] dX6_firstIn_109 5 rfl (by rfl) (by decide) [1, 2, 3, 4, 5, 0, 6] rfl ?_
          refine z_goto (tgt := 9) C dX6_firstIn_112 (by decide) ?_
          refine z_ls [(0, .ref h6), (1, .int tf), (2, .int pl), (3, .int (x3_9 ||| ((1 : Int32) <<< (x4_27 &&& 31)))), (4, .int x4_27), (5, .int (x5_9 + (1 : Int32)))] [0, 1, 2, 3, 4, 5] rfl ?_
          exact ih9 (sg + 2 ^ kk) (j + 1) (x3_9 ||| ((1 : Int32) <<< (x4_27 &&& 31))) x4_27 (x5_9 + (1 : Int32)) (by rw [e3, hxk]; exact or_e sg (by omega) kk (by omega) hok.1) (by rw [e5]; exact nI_1 j) (bit_lt np (by omega) sg hs kk hkk hok.1) (by rw [popc_or sg (by omega) kk (by omega) hok.1, hsj]) hok.2.2 (by omega) (by omega) hf
        have L27 : ∀ (d27 : Nat) (b : Nat) (x4_27 : Int32) (x6_27 : Int32) (e6 : x6_27 = nI b - 1) (hb : b ≤ np) (hd27 : b < d27) (hi : (∃ k, k < np ∧ fiOK sl dr ko bo yo sh wo f0 sg j k ∧ x4_27 = nI k) ∨ ∀ k, b ≤ k → k < np → ¬ fiOK sl dr ko bo yo sh wo f0 sg j k), F_X6_firstIn pn sl dr ko bo yo wo sh tf pl = F_X6_firstIn_l27 sl dr ko bo yo wo sh tf x3_9 x5_9 (F_X6_firstIn_k27 (fun x3_9_r x4_9_r x5_9_r => F_X6_firstIn_l9 pn sl dr ko bo yo wo sh tf pl F_X6_firstIn_k9 d9 x3_9_r x4_9_r x5_9_r) x3_9 x5_9) d27 x4_27 x6_27 → zG p l e ({ frames := 3, cells := 0, slots := 0, locals := 65 } : Room) s m args below meth c D (fun _ => True) (zXr s) 8 0 0 (MQ below (zQr (some (.int (F_X6_firstIn pn sl dr ko bo yo wo sh tf pl)))) args s 0 0 (fun _ => False)) 27 [(0, .ref h6), (1, .int tf), (2, .int pl), (3, .int x3_9), (4, .int x4_27), (5, .int x5_9), (6, .int x6_27)] [] [(h6, .inr (6, fM fl pn sl dr yn ra rp rs rd ry pk yk rg tc q)), ((q 5), .inl (cI, 9, .inl ko)), ((q 6), .inl (cI, 9, .inl bo)), ((q 7), .inl (cI, 9, .inl yo)), ((q 21), .inl (cI, 512, .inl wo)), ((q 27), .inl (cI, 240, .inl sh))] := by
          intro d27
          induction d27 with
          | zero =>
            intro b x4_27 x6_27 e6 hb hd27 hi hf
            exfalso; omega
          | succ d27 ih27 =>
            intro b x4_27 x6_27 e6 hb hd27 hi hf
            rw [F_X6_firstIn_l27] at hf
            skip
            refine z_iload C dX6_firstIn_27 6 rfl ?_
            refine z_if_lt (tgt := 102) C dX6_firstIn_29 (by decide) (fun c29 => ?_) (fun c29 => ?_)
            · rw [if_pos c29] at hf
              exact X27 x4_27 x6_27 (by have hb0 := z_dn0 e6 (by omega) c29; exact hi.elim id (fun hn => by have hjp := z_jle e5 (by omega) (z_tiN hp (by omega)) c12; obtain ⟨k, hk1, hk2⟩ := hW sg hs (by omega) hsw; rw [hsj] at hk2; exact absurd hk2 (hn k (by omega) hk1))) hf
            · rw [if_neg c29] at hf
              obtain ⟨hb1, hdn, hx6⟩ := z_dn e6 (by omega) c29
              refine z_iload_n C dX6_firstIn_32 rfl 3 rfl ?_
              refine z_iload C dX6_firstIn_33 6 rfl ?_
              refine z_cSR (As := [.int x3_9, .int x6_27]) C (c_X6_isIn l D cI cO x3_9 x6_27) (va_cwS 2 C.2.2.2.2.1 gX6_firstIn_X6_isIn rfl rfl rfl hdS_X6_isIn ⟨Nat.le_of_ble_eq_true rfl, Nat.le_of_ble_eq_true rfl⟩) [] rfl rfl rfl _ rfl (Nat.le_of_ble_eq_true rfl) ⟨Nat.zero_le _, Nat.zero_le _⟩ dX6_firstIn_35 ?_
              generalize hu35 : (F_X6_isIn x3_9 x6_27) = u35 at hf ⊢
              refine z_if_ne (tgt := 79) C dX6_firstIn_38 (by decide) (fun c38 => ?_) (fun c38 => ?_)
              · rw [if_neg c38] at hf
                have b38 := c38
                rw [← hu35] at c38
                refine z_iconst (v := (0 : Int32)) C dX6_firstIn_79 (by decide) ?_
                refine z_istore C [(0, .ref h6), (1, .int tf), (2, .int pl), (3, .int x3_9), (4, .int x4_27), (5, .int x5_9), (6, .int x6_27), (7, .int (0 : Int32))] dX6_firstIn_80 (by decide) [1, 2, 3, 4, 5, 6, 7, 0] rfl ?_
                refine z_iload C dX6_firstIn_82 7 rfl ?_
                refine z_if_eq (tgt := 92) C dX6_firstIn_84 (by decide) (fun _ => ?_) (fun h9 => absurd h9 (by decide))
                refine z_iload C dX6_firstIn_92 4 rfl ?_
                refine z_istore C [(0, .ref h6), (1, .int tf), (2, .int pl), (3, .int x3_9), (4, .int x4_27), (5, .int x5_9), (6, .int x6_27), (7, .int (0 : Int32))] dX6_firstIn_94 (by decide) [1, 2, 3, 4, 0, 5, 6, 7] rfl ?_
                refine z_iinc (v := (x6_27 + (-1 : Int32))) C [(0, .ref h6), (1, .int tf), (2, .int pl), (3, .int x3_9), (4, .int x4_27), (5, .int x5_9), (6, .int (x6_27 + (-1 : Int32))), (7, .int (0 : Int32))] dX6_firstIn_96 6 rfl (by rfl) (by decide) [1, 2, 3, 4, 5, 6, 0, 7] rfl ?_
                refine z_goto (tgt := 27) C dX6_firstIn_99 (by decide) ?_
                refine z_ls [(0, .ref h6), (1, .int tf), (2, .int pl), (3, .int x3_9), (4, .int x4_27), (5, .int x5_9), (6, .int (x6_27 + (-1 : Int32)))] [0, 1, 2, 3, 4, 5, 6] rfl ?_
                exact ih27 (b - 1) x4_27 (x6_27 + (-1 : Int32)) (by subst hu35; exact hdn) (by omega) (by omega) (by subst hu35; exact (by first | exact fi_no hi (fi_a e3 (by omega) hx6 (by omega) c38) | exact fi_no hi (fi_b hf0 e5 (by omega) hx6 c58) | exact fi_no hi (fi_c e3 (by omega) hx6 (by omega) hin (by omega) c72) | exact Or.inl ⟨b - 1, by omega, fi_d hf0 e5 (by omega) e3 (by omega) hx6 (by omega) hin (by omega) c58 c72, hx6⟩)) hf
              · rw [if_pos c38] at hf
                have b38 := c38
                rw [← hu35] at c38
                have hin := (isIn_e sg (by omega) (b - 1) (by omega)).mp (by rw [← e3, ← hx6]; exact c38)
                have hlt := bit_lt np (by omega) sg hs (b - 1) (by omega) hin
                refine z_aload_n C dX6_firstIn_41 rfl 0 rfl ?_
                refine z_iload C dX6_firstIn_42 6 rfl ?_
                refine z_iload C dX6_firstIn_44 5 rfl ?_
                refine z_aload_n C dX6_firstIn_46 rfl 0 rfl ?_
                refine z_get (T := TX6) (v := .ref (q 27)) C i_X6_firstIn_6 0 rfl rfl 27 (by decide) m_X6_firstIn_2 rfl rfl dX6_firstIn_47 ?_
                refine z_iload_n C dX6_firstIn_50 rfl 1 rfl ?_
                refine z_iload C dX6_firstIn_51 5 rfl ?_
                refine z_iadd C dX6_firstIn_53 ?_
                refine z_ald C 5 rfl (by subst hu35; exact (z_ixN (by rw [hf0, e5]; exact nI_add _ _) (show f0 + j < 240 by omega) (by decide))) dX6_firstIn_54 ?_
                refine z_cVR (As := [.int x6_27, .int x5_9, .int (sh (tf + x5_9).toNatClampNeg)]) C (c_X6_mayLie l D cI cO h6 q fl pn sl dr yn ra rp rs rd ry pk yk rg tc ko bo yo x6_27 x5_9 (sh (tf + x5_9).toNatClampNeg) (by subst hu35; exact (z_ix9 hx6 (by omega))) (by subst hu35; exact (z_ix9 e5 (by omega)))) (cwV 3 C.2.2.2.2.1 gX6_firstIn_X6_mayLie rfl rfl rfl hdV_X6_mayLie ⟨Nat.le_of_ble_eq_true rfl, Nat.le_of_ble_eq_true rfl⟩) [0, 1, 2, 3] rfl rfl 0 rfl rfl rfl _ rfl (Nat.le_of_ble_eq_true rfl) ⟨Nat.zero_le _, Nat.zero_le _⟩ dX6_firstIn_55 ?_
                generalize hu55 : (F_X6_mayLie sl dr ko bo yo x6_27 x5_9 (sh (tf + x5_9).toNatClampNeg)) = u55 at hf ⊢
                refine z_if_eq (tgt := 79) C dX6_firstIn_58 (by decide) (fun c58 => ?_) (fun c58 => ?_)
                · rw [if_pos c58] at hf
                  have b58 := c58
                  rw [← hu55] at c58
                  refine z_iconst (v := (0 : Int32)) C dX6_firstIn_79 (by decide) ?_
                  refine z_istore C [(0, .ref h6), (1, .int tf), (2, .int pl), (3, .int x3_9), (4, .int x4_27), (5, .int x5_9), (6, .int x6_27), (7, .int (0 : Int32))] dX6_firstIn_80 (by decide) [1, 2, 3, 4, 5, 6, 7, 0] rfl ?_
                  refine z_iload C dX6_firstIn_82 7 rfl ?_
                  refine z_if_eq (tgt := 92) C dX6_firstIn_84 (by decide) (fun _ => ?_) (fun h9 => absurd h9 (by decide))
                  refine z_iload C dX6_firstIn_92 4 rfl ?_
                  refine z_istore C [(0, .ref h6), (1, .int tf), (2, .int pl), (3, .int x3_9), (4, .int x4_27), (5, .int x5_9), (6, .int x6_27), (7, .int (0 : Int32))] dX6_firstIn_94 (by decide) [1, 2, 3, 4, 0, 5, 6, 7] rfl ?_
                  refine z_iinc (v := (x6_27 + (-1 : Int32))) C [(0, .ref h6), (1, .int tf), (2, .int pl), (3, .int x3_9), (4, .int x4_27), (5, .int x5_9), (6, .int (x6_27 + (-1 : Int32))), (7, .int (0 : Int32))] dX6_firstIn_96 6 rfl (by rfl) (by decide) [1, 2, 3, 4, 5, 6, 0, 7] rfl ?_
                  refine z_goto (tgt := 27) C dX6_firstIn_99 (by decide) ?_
                  refine z_ls [(0, .ref h6), (1, .int tf), (2, .int pl), (3, .int x3_9), (4, .int x4_27), (5, .int x5_9), (6, .int (x6_27 + (-1 : Int32)))] [0, 1, 2, 3, 4, 5, 6] rfl ?_
                  exact ih27 (b - 1) x4_27 (x6_27 + (-1 : Int32)) (by subst hu55 hu35; exact hdn) (by omega) (by omega) (by subst hu55 hu35; exact (by first | exact fi_no hi (fi_a e3 (by omega) hx6 (by omega) c38) | exact fi_no hi (fi_b hf0 e5 (by omega) hx6 c58) | exact fi_no hi (fi_c e3 (by omega) hx6 (by omega) hin (by omega) c72) | exact Or.inl ⟨b - 1, by omega, fi_d hf0 e5 (by omega) e3 (by omega) hx6 (by omega) hin (by omega) c58 c72, hx6⟩)) hf
                · rw [if_neg c58] at hf
                  have b58 := c58
                  rw [← hu55] at c58
                  refine z_aload_n C dX6_firstIn_61 rfl 0 rfl ?_
                  refine z_get (T := TX6) (v := .ref (q 21)) C i_X6_firstIn_6 0 rfl rfl 21 (by decide) m_X6_firstIn_3 rfl rfl dX6_firstIn_62 ?_
                  refine z_iload_n C dX6_firstIn_65 rfl 3 rfl ?_
                  refine z_iconst (v := (1 : Int32)) C dX6_firstIn_66 (by decide) ?_
                  refine z_iload C dX6_firstIn_67 6 rfl ?_
                  refine z_ishl C dX6_firstIn_69 ?_
                  refine z_ior C dX6_firstIn_70 ?_
                  refine z_ald C 4 rfl (by subst hu55 hu35; exact (z_ixN (by rw [e3, hx6]; exact or_e sg (by omega) (b - 1) (by omega) hin) (show sg + 2 ^ (b - 1) < 512 by omega) (by decide))) dX6_firstIn_71 ?_
                  refine z_if_le (tgt := 79) C dX6_firstIn_72 (by decide) (fun c72 => ?_) (fun c72 => ?_)
                  · rw [if_pos c72] at hf
                    refine z_iconst (v := (0 : Int32)) C dX6_firstIn_79 (by decide) ?_
                    refine z_istore C [(0, .ref h6), (1, .int tf), (2, .int pl), (3, .int x3_9), (4, .int x4_27), (5, .int x5_9), (6, .int x6_27), (7, .int (0 : Int32))] dX6_firstIn_80 (by decide) [1, 2, 3, 4, 5, 6, 7, 0] rfl ?_
                    refine z_iload C dX6_firstIn_82 7 rfl ?_
                    refine z_if_eq (tgt := 92) C dX6_firstIn_84 (by decide) (fun _ => ?_) (fun h9 => absurd h9 (by decide))
                    refine z_iload C dX6_firstIn_92 4 rfl ?_
                    refine z_istore C [(0, .ref h6), (1, .int tf), (2, .int pl), (3, .int x3_9), (4, .int x4_27), (5, .int x5_9), (6, .int x6_27), (7, .int (0 : Int32))] dX6_firstIn_94 (by decide) [1, 2, 3, 4, 0, 5, 6, 7] rfl ?_
                    refine z_iinc (v := (x6_27 + (-1 : Int32))) C [(0, .ref h6), (1, .int tf), (2, .int pl), (3, .int x3_9), (4, .int x4_27), (5, .int x5_9), (6, .int (x6_27 + (-1 : Int32))), (7, .int (0 : Int32))] dX6_firstIn_96 6 rfl (by rfl) (by decide) [1, 2, 3, 4, 5, 6, 0, 7] rfl ?_
                    refine z_goto (tgt := 27) C dX6_firstIn_99 (by decide) ?_
                    refine z_ls [(0, .ref h6), (1, .int tf), (2, .int pl), (3, .int x3_9), (4, .int x4_27), (5, .int x5_9), (6, .int (x6_27 + (-1 : Int32)))] [0, 1, 2, 3, 4, 5, 6] rfl ?_
                    exact ih27 (b - 1) x4_27 (x6_27 + (-1 : Int32)) (by subst hu55 hu35; exact hdn) (by omega) (by omega) (by subst hu55 hu35; exact (by first | exact fi_no hi (fi_a e3 (by omega) hx6 (by omega) c38) | exact fi_no hi (fi_b hf0 e5 (by omega) hx6 c58) | exact fi_no hi (fi_c e3 (by omega) hx6 (by omega) hin (by omega) c72) | exact Or.inl ⟨b - 1, by omega, fi_d hf0 e5 (by omega) e3 (by omega) hx6 (by omega) hin (by omega) c58 c72, hx6⟩)) hf
                  · rw [if_neg c72] at hf
                    refine z_iconst (v := (1 : Int32)) C dX6_firstIn_75 (by decide) ?_
                    refine z_goto (tgt := 80) C dX6_firstIn_76 (by decide) ?_
                    refine z_istore C [(0, .ref h6), (1, .int tf), (2, .int pl), (3, .int x3_9), (4, .int x4_27), (5, .int x5_9), (6, .int x6_27), (7, .int (1 : Int32))] dX6_firstIn_80 (by decide) [1, 2, 3, 4, 5, 6, 7, 0] rfl ?_
                    refine z_iload C dX6_firstIn_82 7 rfl ?_
                    refine z_if_eq (tgt := 92) C dX6_firstIn_84 (by decide) (fun h9 => absurd h9 (by decide)) (fun _ => ?_)
                    refine z_iload C dX6_firstIn_87 6 rfl ?_
                    refine z_goto (tgt := 94) C dX6_firstIn_89 (by decide) ?_
                    refine z_istore C [(0, .ref h6), (1, .int tf), (2, .int pl), (3, .int x3_9), (4, .int x6_27), (5, .int x5_9), (6, .int x6_27), (7, .int (1 : Int32))] dX6_firstIn_94 (by decide) [1, 2, 3, 4, 0, 5, 6, 7] rfl ?_
                    refine z_iinc (v := (x6_27 + (-1 : Int32))) C [(0, .ref h6), (1, .int tf), (2, .int pl), (3, .int x3_9), (4, .int x6_27), (5, .int x5_9), (6, .int (x6_27 + (-1 : Int32))), (7, .int (1 : Int32))] dX6_firstIn_96 6 rfl (by rfl) (by decide) [1, 2, 3, 4, 5, 6, 0, 7] rfl ?_
                    refine z_goto (tgt := 27) C dX6_firstIn_99 (by decide) ?_
                    refine z_ls [(0, .ref h6), (1, .int tf), (2, .int pl), (3, .int x3_9), (4, .int x6_27), (5, .int x5_9), (6, .int (x6_27 + (-1 : Int32)))] [0, 1, 2, 3, 4, 5, 6] rfl ?_
                    exact ih27 (b - 1) x6_27 (x6_27 + (-1 : Int32)) (by subst hu55 hu35; exact hdn) (by omega) (by omega) (by subst hu55 hu35; exact (by first | exact fi_no hi (fi_a e3 (by omega) hx6 (by omega) c38) | exact fi_no hi (fi_b hf0 e5 (by omega) hx6 c58) | exact fi_no hi (fi_c e3 (by omega) hx6 (by omega) hin (by omega) c72) | exact Or.inl ⟨b - 1, by omega, fi_d hf0 e5 (by omega) e3 (by omega) hx6 (by omega) hin (by omega) c58 c72, hx6⟩)) hf
        exact L27 10 np (-9 : Int32) (pn - (1 : Int32)) (by rw [hpn]) (Nat.le_refl _) (by omega) (Or.inr (fun k h1 h2 => absurd h1 (by omega))) hf
  exact L9 11 0 0 (0 : Int32) (-9 : Int32) (0 : Int32) nI_0.symm nI_0.symm (by have := (pow_le np (by omega)).1; omega) rfl hw0 (by omega) (by omega) hf
