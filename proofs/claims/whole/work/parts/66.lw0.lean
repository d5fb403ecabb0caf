def LwQ (ad_s0 ad_s1 ad_s2 ad_s3 : Nat) (ad_hq : Nat → Option Nat) : Prop := ad_hq 0 = some ad_s0 ∧ ad_hq 1 = some ad_s1 ∧ ad_hq 2 = some ad_s2 ∧ ad_hq 3 = some ad_s3
def wL (cI cO : ClassId) (ad_h5 ad_h4 ad_a1 ad_a2 ad_a3 ad_h2 ad_e1 ad_e2 ad_h0 ad_h4t ad_a1t ad_a2t ad_a3t ad_h1 ad_g1 ad_g2 ad_g3 ad_ash ad_s0 ad_b0 ad_s1 ad_b1 ad_s2 ad_b2 ad_s3 ad_b3 ad_h6 : Nat) (ad_q : Nat → Nat) (ad_hq : Nat → Option Nat) (x_pn x_sl x_dr x_nw x_rc x_tr x_ft x_pnt x_slt x_drt x_nwt x_fw x_lb x_lp x_lw x_ra x_rq x_rs x_rd x_ry x_pk x_yk : Int32) (x_kd x_bd x_yr x_rp x_rw x_kdt x_bdt x_yrt x_gh x_wa x_sp x_ln x_lg x_ka x_ba x_ta x_kk x_bk x_tk x_wo x_ss x_sa x_sh x_hn : Nat → Int32) (x_cl : Nat → Nat → Int32) : va_W := [(ad_h5, .inr (5, [.ref ad_h4, .ref ad_h2, .ref ad_h0, .ref ad_h1, .ref ad_ash, .int x_tr, .int x_ft])), (ad_h4, .inr (4, [.ref ad_a1, .ref ad_a2, .ref ad_a3, .int x_pn, .int x_sl, .int x_dr, .int x_nw])), (ad_a1, .inl (cI, 9, .inl x_kd)), (ad_a2, .inl (cI, 9, .inl x_bd)), (ad_a3, .inl (cI, 9, .inl x_yr)), (ad_h2, .inr (2, [.ref ad_e1, .ref ad_e2, .int x_rc])), (ad_e1, .inl (cI, 8, .inl x_rp)), (ad_e2, .inl (cI, 8, .inl x_rw)), (ad_h0, .inr (0, [.ref ad_h4t, .int x_fw, .int x_lb])), (ad_h4t, .inr (4, [.ref ad_a1t, .ref ad_a2t, .ref ad_a3t, .int x_pnt, .int x_slt, .int x_drt, .int x_nwt])), (ad_a1t, .inl (cI, 9, .inl x_kdt)), (ad_a2t, .inl (cI, 9, .inl x_bdt)), (ad_a3t, .inl (cI, 9, .inl x_yrt)), (ad_h1, .inr (1, [.ref ad_g1, .ref ad_g2, .ref ad_g3, .int x_lp, .int x_lw])), (ad_g1, .inl (cI, 9, .inl x_gh)), (ad_g2, .inl (cI, 9, .inl x_wa)), (ad_g3, .inl (cI, 6, .inl x_sp)), (ad_ash, .inl (cO, 4, .inr (.inr (.inr (.inr ad_hq))))), (ad_s0, .inr (3, [.ref ad_b0, .int (x_ln 0), .int (x_lg 0)])), (ad_b0, .inl (cI, 60, .inl (x_cl 0))), (ad_s1, .inr (3, [.ref ad_b1, .int (x_ln 1), .int (x_lg 1)])), (ad_b1, .inl (cI, 60, .inl (x_cl 1))), (ad_s2, .inr (3, [.ref ad_b2, .int (x_ln 2), .int (x_lg 2)])), (ad_b2, .inl (cI, 60, .inl (x_cl 2))), (ad_s3, .inr (3, [.ref ad_b3, .int (x_ln 3), .int (x_lg 3)])), (ad_b3, .inl (cI, 60, .inl (x_cl 3))), (ad_h6, .inr (6, fM x_ft x_pn x_sl x_dr x_nw x_ra x_rq x_rs x_rd x_ry x_pk x_yk x_rc x_tr ad_q)), ((ad_q 5), .inl (cI, 9, .inl x_kd)), ((ad_q 6), .inl (cI, 9, .inl x_bd)), ((ad_q 7), .inl (cI, 9, .inl x_yr)), ((ad_q 13), .inl (cI, 9, .inl x_ka)), ((ad_q 14), .inl (cI, 9, .inl x_ba)), ((ad_q 15), .inl (cI, 9, .inl x_ta)), ((ad_q 18), .inl (cI, 9, .inl x_kk)), ((ad_q 19), .inl (cI, 9, .inl x_bk)), ((ad_q 20), .inl (cI, 9, .inl x_tk)), ((ad_q 21), .inl (cI, 512, .inl x_wo)), ((ad_q 23), .inl (cI, 8, .inl x_rp)), ((ad_q 24), .inl (cI, 8, .inl x_rw)), ((ad_q 25), .inl (cI, 4, .inl x_ss)), ((ad_q 26), .inl (cI, 4, .inl x_sa)), ((ad_q 27), .inl (cI, 240, .inl x_sh)), ((ad_q 28), .inl (cI, 60, .inl x_hn))]
theorem lg_le {sz la ln lg : Int32} {sh cl : Nat → Int32} (h : shR sz la sh ln lg cl) : lg ≤ 60 := by
  rcases h with h | ⟨n, a, h1, h2, h3, h4, h5⟩
  · rw [h.2.2]; decide
  · rw [h4]; exact nI_le (b := 60) h1 (by decide)
theorem LInv.facts {x_pn x_sl x_dr x_nw x_rc : Int32} {x_kd x_bd x_yr x_rp x_ss x_sa x_sh x_ln x_lg : Nat → Int32} {x_cl : Nat → Nat → Int32} {n : Nat} (h : LInv x_pn x_sl x_dr x_nw x_rc x_kd x_bd x_yr x_rp x_ss x_sa x_sh x_ln x_lg x_cl n) (hn : n ≤ 64) : ∃ np nr : Nat, np ≤ 9 ∧ x_pn = nI np ∧ nr ≤ 8 ∧ x_rc = nI nr ∧ rdOK x_rp nr np ∧ (∀ i, i < nr → vp_in (x_rp i) 9) ∧ (∀ i, i < 4 → (x_ss i).toInt ≤ 60) ∧ (0 < np → ∃ y : Nat, y < 2 ^ 31 ∧ x_yr 0 = nI y) ∧ (∀ i, i < np → ∃ a, a ≤ 2 ∧ x_kd i = nI a) := by
  obtain ⟨nr, np, r1, r2, r3, r4, r5⟩ := h.2.1
  obtain ⟨np', a, b, y, h1, h2, h3, h4, h5, h6, h7, h8, h9⟩ := h.1
  have e : np' = np := nI_inj (by omega) (by omega) (h2.symm.trans r4)
  subst e
  refine ⟨np', nr, r3, r4, r1, r2, r5, fun i hi => ?_, fun i hi => ?_, fun hp => ?_, fun i hi => (h9 i hi).1⟩
  · obtain ⟨p, p1, p2⟩ := r5 i hi
    rw [p2]; exact vp_in_nI (by omega) (by decide)
  · rcases h.2.2 i hi with g | ⟨n, a, g1, g2, g3, g4⟩
    · have := (zl_lt (z := 0) (by decide)).mp g.1; omega
    · rw [g3, nI_toInt (by omega)]; omega
  · obtain ⟨t, t1, t2⟩ := (h9 0 hp).2.2
    exact ⟨t, by omega, t2⟩
theorem inv_well {pn sl dr nw rc pn' sl' dr' nw' rc' : Int32} {kd bd yr kd' bd' yr' rp ss sa sh ln lg : Nat → Int32} {cl : Nat → Nat → Int32} {n : Nat} (h : LInv pn sl dr nw rc kd bd yr rp ss sa sh ln lg cl n) (hF : (pn' = pn ∧ sl' = sl ∧ dr' = dr ∧ nw' = nw ∧ kd' = kd ∧ bd' = bd ∧ yr' = yr ∧ rc' = rc) ∨ (rc' = 0 ∧ wellOK pn' sl' dr' nw' kd' bd' yr' 81)) : LInv pn' sl' dr' nw' rc' kd' bd' yr' rp ss sa sh ln lg cl (n + 1) := by
  rcases hF with ⟨rfl, rfl, rfl, rfl, rfl, rfl, rfl, rfl⟩ | ⟨rfl, hw⟩
  · exact ⟨h.1.mono (by omega), h.2.1, h.2.2⟩
  · obtain ⟨np, a, b, y, h1, h2, h3⟩ := id hw
    exact ⟨hw.mono (by omega), ⟨0, np, by omega, rfl, h1, h2, fun i hi => by omega⟩, h.2.2⟩
section ZS
variable {p : Program} {l : Launch} {e : Env} {R : Room} {s : State} {m : MethodId} {args : Array Value} {below : List Frame} {meth : Method} {c : Code} {D : va_G} {A : Nat → Prop} {nL cells slots : Nat} {Q : State → Prop} {pc : Nat} {ls : List (Nat × Value)} {st : List Value} {ws : va_W} {cc : ByteArray} {own : String} {Ts : List Cond} {cI cO : ClassId}
theorem z_sld (C : zC p s m args c cc nL own Ts D cI cO) {b L : Nat} {xs : Nat → Int32} (hX0 : va_X b L xs s s.heap) (hbl : b < s.heap.size) (hbA : ¬ A b) (hL : L ≤ 384) {i : Int32} {j : Nat} (hi : i = nI j) (hj : j < L) (hdg : decode cc pc = .ok (.iaload, 1))
    (kk : zG p l e R s m args below meth c D A (zXw A s.heap) nL cells slots Q (pc + 1) ls (.int (xs j) :: st) ws) : zG p l e R s m args below meth c D A (zXw A s.heap) nL cells slots Q pc ls (.int i :: .ref b :: st) ws := fun H locs la hP hD hX hl =>
  va_sld C.1 C.2.1 hX0 hbl hbA hX (by rw [hi]; exact vp_in_nI hj (by omega)) hdg (by rw [hi, nI_clamp (by omega)]; exact kk H locs la hP hD hX hl)
theorem z_slen (C : zC p s m args c cc nL own Ts D cI cO) {b L : Nat} {xs : Nat → Int32} (hX0 : va_X b L xs s s.heap) (hbl : b < s.heap.size) (hbA : ¬ A b) (hdg : decode cc pc = .ok (.arraylength, 1))
    (kk : zG p l e R s m args below meth c D A (zXw A s.heap) nL cells slots Q (pc + 1) ls (.int (nI L) :: st) ws) : zG p l e R s m args below meth c D A (zXw A s.heap) nL cells slots Q pc ls (.ref b :: st) ws := fun H locs la hP hD hX hl =>
  va_slen C.1 C.2.1 hX0 hbl hbA hX hdg (kk H locs la hP hD hX hl)
end ZS
