theorem iL0 : ∀ w ∈ u_ws RX0 TX0 3, w ∈ wsL_law := by decide +kernel
theorem iL1 : ∀ w ∈ u_ws RX1 TX1 5, w ∈ wsL_law := by decide +kernel
theorem iL2 : ∀ w ∈ u_ws RX2 TX2 3, w ∈ wsL_law := by decide +kernel
theorem iL3 : ∀ w ∈ u_ws RX3 TX3 3, w ∈ wsL_law := by decide +kernel
theorem iL4 : ∀ w ∈ u_ws RX4 TX4 7, w ∈ wsL_law := by decide +kernel
theorem iL5 : ∀ w ∈ u_ws RX5 TX5 7, w ∈ wsL_law := by decide +kernel
theorem iL6 : ∀ w ∈ u_ws RX6 TX6 30, w ∈ wsL_law := by decide +kernel
theorem mL_10 : Cond.instantiable RX0 3 ∈ wsL_law := List.mem_of_getElem? (i := 21) rfl
theorem mL_11 : Cond.instantiable RX1 5 ∈ wsL_law := List.mem_of_getElem? (i := 25) rfl
theorem mL_12 : Cond.instantiable RX2 3 ∈ wsL_law := List.mem_of_getElem? (i := 17) rfl
theorem mL_13 : Cond.instantiable RX3 3 ∈ wsL_law := List.mem_of_getElem? (i := 30) rfl
theorem mL_14 : Cond.instantiable RX4 7 ∈ wsL_law := List.mem_of_getElem? (i := 13) rfl
theorem nw_0 : Cond.methodLinkNest RX5 11 yX4_init RX5 ∈ lw_tbl := by decide +kernel
theorem nw_1 : Cond.methodLinkNest RX5 20 yX2_init RX5 ∈ lw_tbl := by decide +kernel
theorem nw_2 : Cond.methodLinkNest RX5 27 yX0_init RX5 ∈ lw_tbl := by decide +kernel
theorem nw_3 : Cond.methodLinkNest RX5 34 yX1_init RX5 ∈ lw_tbl := by decide +kernel
theorem nw_4 : Cond.methodLinkNest RX5 45 yX3_init RX5 ∈ lw_tbl := by decide +kernel
theorem nw_5 : Cond.methodLinkNest RX0 11 yX4_init RX5 ∈ lw_tbl := by decide +kernel
theorem nw_6 : Cond.methodLinkNest RX2 37 yX5_wishOf RX5 ∈ lw_tbl := by decide +kernel
theorem nw_7 : Cond.methodLinkNest RX4 54 yX5_turnOf RX5 ∈ lw_tbl := by decide +kernel
theorem nw_8 : Cond.methodLinkNest RX4 58 yX5_wishOf RX5 ∈ lw_tbl := by decide +kernel
theorem nw_all : ∀ q ∈ zNL, Cond.methodLinkNest q.1 q.2.1 q.2.2 RX5 ∈ lw_tbl := List.forall_mem_cons.mpr ⟨nw_0, List.forall_mem_cons.mpr ⟨nw_1, List.forall_mem_cons.mpr ⟨nw_2, List.forall_mem_cons.mpr ⟨nw_3, List.forall_mem_cons.mpr ⟨nw_4, List.forall_mem_cons.mpr ⟨nw_5, List.forall_mem_cons.mpr ⟨nw_6, List.forall_mem_cons.mpr ⟨nw_7, List.forall_mem_cons.mpr ⟨nw_8, fun _ h => absurd h List.not_mem_nil⟩⟩⟩⟩⟩⟩⟩⟩⟩
theorem nw_ao : Cond.arrayOver (.object RX3) ∈ lw_tbl := by decide +kernel
theorem nw_ac : Cond.arrayClass .int ∈ lw_tbl := by decide +kernel
theorem int_class {s : State} {args : Array Value} (h : (Cond.arrayClass .int).before args s = true) : ∃ cI : ClassId, ArrOfT s cI .int ∧ va_RA s cI .int := by
  obtain ⟨c, k, comp, h1, h2, h3⟩ := Cond.arrayClass_spec h
  exact ⟨c, fun N z => ⟨(fun k h => by cases h), k, h2, comp, h3⟩, h1⟩
theorem obj_class {s : State} {args : Array Value} (h : (Cond.arrayOver (.object RX3)).before args s = true) : ∃ cO : ClassId, ArrOfT s cO (.object RX3) ∧ va_RA s cO (.object RX3) := by
  obtain ⟨comp, c, k, h1, h2, h3, h4, h5⟩ := Cond.arrayOver_spec h
  exact ⟨c, fun N z => ⟨(fun k h => by cases h), k, h3, comp, h4⟩, k, comp, h3, h4, h1, h5⟩
set_option maxHeartbeats 4000000 in
set_option maxRecDepth 100000 in
/-- THE LAW, from its entry -/
theorem whole_start {p : Program} {e : Env} {s : State} {m : MethodId} {below : List Frame} {meth : Method} {c : Code} (l : Launch) (hflags : l.flags = flags0) {b L : Nat} {xs : Nat → Int32} (hL : L ≤ 384) (C0 : lw_At p s m meth c b L xs) : W p l e room_1 s m #[Value.ref b] below meth c s.heap [] 0 0 (lw_Z below #[Value.ref b] s) (entryFrame m ([Value.ref b] : List Value).toArray 4) := by
  obtain ⟨hx, hb, hr, hml, hown, hts, hX, hbl, hlocks, hgv⟩ := id C0
  obtain ⟨c0, iS0, hKn0⟩ := u_known (C := RX0) (T := TX0) (N := 3) (n := 3) hts (fun w hw => wsL_law_in w (iL0 w hw)) (hts _ (wsL_law_in _ mL_10))
  obtain ⟨c1, iS1, hKn1⟩ := u_known (C := RX1) (T := TX1) (N := 5) (n := 5) hts (fun w hw => wsL_law_in w (iL1 w hw)) (hts _ (wsL_law_in _ mL_11))
  obtain ⟨c2, iS2, hKn2⟩ := u_known (C := RX2) (T := TX2) (N := 3) (n := 3) hts (fun w hw => wsL_law_in w (iL2 w hw)) (hts _ (wsL_law_in _ mL_12))
  obtain ⟨c3, iS3, hKn3⟩ := u_known (C := RX3) (T := TX3) (N := 3) (n := 3) hts (fun w hw => wsL_law_in w (iL3 w hw)) (hts _ (wsL_law_in _ mL_13))
  obtain ⟨c4, iS4, hKn4⟩ := u_known (C := RX4) (T := TX4) (N := 7) (n := 7) hts (fun w hw => wsL_law_in w (iL4 w hw)) (hts _ (wsL_law_in _ mL_14))
  obtain ⟨c5, iS5, hKn5⟩ := u_known (C := RX5) (T := TX5) (N := 7) (n := 7) hts (fun w hw => wsL_law_in w (iL5 w hw)) (hts _ (wsL_law_in _ mL_1))
  obtain ⟨c6, iS6, hKn6⟩ := u_known (C := RX6) (T := TX6) (N := 30) (n := 30) hts (fun w hw => wsL_law_in w (iL6 w hw)) (hts _ (wsL_law_in _ mL_6))
  obtain ⟨dC, dI, hKc⟩ : ∃ (dC : Nat → ClassId) (dI : Nat → Nat → Nat), ∀ (k : Nat) (q : vw_C), vwCl[k]? = some q → u_Kn s q.1 q.2.1 q.2.2 (dC k) (dI k) := by
    refine ⟨fun k => if k = 0 then c0 else if k = 1 then c1 else if k = 2 then c2 else if k = 3 then c3 else if k = 4 then c4 else if k = 5 then c5 else c6, fun k => if k = 0 then iS0 else if k = 1 then iS1 else if k = 2 then iS2 else if k = 3 then iS3 else if k = 4 then iS4 else if k = 5 then iS5 else iS6, ?_⟩
    intro k q hq
    match k, hq with
    | 0, hq => cases hq; exact hKn0
    | 1, hq => cases hq; exact hKn1
    | 2, hq => cases hq; exact hKn2
    | 3, hq => cases hq; exact hKn3
    | 4, hq => cases hq; exact hKn4
    | 5, hq => cases hq; exact hKn5
    | 6, hq => cases hq; exact hKn6
    | k + 7, hq => simp [vwCl] at hq
  obtain ⟨cI, hI1, hI2⟩ := int_class (hts _ nw_ac)
  obtain ⟨cO, hO1, hO2⟩ := obj_class (hts _ nw_ao)
  have hK : zK (dC, dI) cI cO s := by
    refine ⟨⟨hKc, fun k q hq => ?_⟩, fun q hq => hts _ (nw_all q hq)⟩
    match k, hq with
    | 0, hq => cases hq; exact ⟨hI1, hI2⟩
    | 1, hq => cases hq; exact ⟨hO1, hO2⟩
    | k + 2, hq => simp at hq
  have C : zC p s m #[Value.ref b] c cL_law 4 RL wsL_law (dC, dI) cI cO := ⟨hx, hb, hml, hown, fun w hw => hts w (wsL_law_in w hw), hK⟩
  have hl := lv_entry ([.ref b]) (n := 4) (Nat.le_of_ble_eq_true rfl)
  rw [lg_entry_eq]
  generalize (lg_sl ([.ref b]) ++ List.replicate (4 - (lg_sl ([.ref b])).length) Slot.unset).toArray = ls at hl ⊢
  exact law_body l C (va_AO.of (hts _ nw_ao)) hX hbl hL hr hlocks s.heap [] ls (fun k q h => by simp at h) ⟨fun i j p q h => by simp at h, fun k q h => by simp at h⟩ va_S.rf hl
