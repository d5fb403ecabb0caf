section
-- ===== PART A: goes FIRST, ahead of the names: the tables' words, and 'selects' of the private methods out of them =====
/-- a private method of a class that the tables say can be made, by its rows of tables_1 -/
def lw_okq (q : MethodName × Nat) : Prop := (q.1.cls ≠ "java/lang/invoke/MethodHandle" ∧ q.1.cls ≠ "java/lang/invoke/VarHandle") ∧ Cond.instantiable q.1.cls q.2 ∈ tables_1 ∧ Cond.privateMethod q.1 ∈ tables_1 ∧ Cond.instanceMethod q.1 ∈ tables_1
theorem lw_p0 : lw_okq (⟨"WishPins", "failed", "(I)I"⟩, 7) := ⟨⟨by decide +kernel, by decide +kernel⟩, List.mem_of_getElem? (i := 11) (by decide +kernel), List.mem_of_getElem? (i := 180) (by decide +kernel), List.mem_of_getElem? (i := 181) (by decide +kernel)⟩
theorem lw_p1 : lw_okq (⟨"WishPins", "hasWell", "()Z"⟩, 7) := ⟨⟨by decide +kernel, by decide +kernel⟩, List.mem_of_getElem? (i := 11) (by decide +kernel), List.mem_of_getElem? (i := 255) (by decide +kernel), List.mem_of_getElem? (i := 256) (by decide +kernel)⟩
theorem lw_p2 : lw_okq (⟨"WishPins$Century", "canDo", "(II)Z"⟩, 3) := ⟨⟨by decide +kernel, by decide +kernel⟩, List.mem_of_getElem? (i := 76) (by decide +kernel), List.mem_of_getElem? (i := 316) (by decide +kernel), List.mem_of_getElem? (i := 317) (by decide +kernel)⟩
theorem lw_p3 : lw_okq (⟨"WishPins$Century", "allWishes", "()I"⟩, 3) := ⟨⟨by decide +kernel, by decide +kernel⟩, List.mem_of_getElem? (i := 76) (by decide +kernel), List.mem_of_getElem? (i := 327) (by decide +kernel), List.mem_of_getElem? (i := 328) (by decide +kernel)⟩
theorem lw_p4 : lw_okq (⟨"WishPins$Layers", "countWays", "()I"⟩, 5) := ⟨⟨by decide +kernel, by decide +kernel⟩, List.mem_of_getElem? (i := 94) (by decide +kernel), List.mem_of_getElem? (i := 367) (by decide +kernel), List.mem_of_getElem? (i := 368) (by decide +kernel)⟩
theorem lw_p5 : lw_okq (⟨"WishPins$Layers", "leastFor", "(II)I"⟩, 5) := ⟨⟨by decide +kernel, by decide +kernel⟩, List.mem_of_getElem? (i := 94) (by decide +kernel), List.mem_of_getElem? (i := 375) (by decide +kernel), List.mem_of_getElem? (i := 376) (by decide +kernel)⟩
theorem lw_p6 : lw_okq (⟨"WishPins", "tellPlain", "(I)I"⟩, 7) := ⟨⟨by decide +kernel, by decide +kernel⟩, List.mem_of_getElem? (i := 11) (by decide +kernel), List.mem_of_getElem? (i := 464) (by decide +kernel), List.mem_of_getElem? (i := 465) (by decide +kernel)⟩
theorem lw_p7 : lw_okq (⟨"WishPins", "beginBody", "(I)V"⟩, 7) := ⟨⟨by decide +kernel, by decide +kernel⟩, List.mem_of_getElem? (i := 11) (by decide +kernel), List.mem_of_getElem? (i := 468) (by decide +kernel), List.mem_of_getElem? (i := 469) (by decide +kernel)⟩
theorem lw_p8 : lw_okq (⟨"WishPins", "tellCrook", "(I)I"⟩, 7) := ⟨⟨by decide +kernel, by decide +kernel⟩, List.mem_of_getElem? (i := 11) (by decide +kernel), List.mem_of_getElem? (i := 472) (by decide +kernel), List.mem_of_getElem? (i := 473) (by decide +kernel)⟩
theorem lw_p9 : lw_okq (⟨"WishPins", "tellDouble", "(I)I"⟩, 7) := ⟨⟨by decide +kernel, by decide +kernel⟩, List.mem_of_getElem? (i := 11) (by decide +kernel), List.mem_of_getElem? (i := 476) (by decide +kernel), List.mem_of_getElem? (i := 477) (by decide +kernel)⟩
theorem lw_p10 : lw_okq (⟨"WishPinsModel", "refused", "(I)I"⟩, 30) := ⟨⟨by decide +kernel, by decide +kernel⟩, List.mem_of_getElem? (i := 500) (by decide +kernel), List.mem_of_getElem? (i := 608) (by decide +kernel), List.mem_of_getElem? (i := 609) (by decide +kernel)⟩
theorem lw_p11 : lw_okq (⟨"WishPinsModel", "cellsBarred", "(IIIJ)I"⟩, 30) := ⟨⟨by decide +kernel, by decide +kernel⟩, List.mem_of_getElem? (i := 500) (by decide +kernel), List.mem_of_getElem? (i := 613) (by decide +kernel), List.mem_of_getElem? (i := 614) (by decide +kernel)⟩
theorem lw_p12 : lw_okq (⟨"WishPinsModel", "failed", "(I)I"⟩, 30) := ⟨⟨by decide +kernel, by decide +kernel⟩, List.mem_of_getElem? (i := 500) (by decide +kernel), List.mem_of_getElem? (i := 617) (by decide +kernel), List.mem_of_getElem? (i := 618) (by decide +kernel)⟩
theorem lw_p13 : lw_okq (⟨"WishPinsModel", "readsWell", "(II)Z"⟩, 30) := ⟨⟨by decide +kernel, by decide +kernel⟩, List.mem_of_getElem? (i := 500) (by decide +kernel), List.mem_of_getElem? (i := 624) (by decide +kernel), List.mem_of_getElem? (i := 625) (by decide +kernel)⟩
theorem lw_p14 : lw_okq (⟨"WishPinsModel", "codeAt", "(II)I"⟩, 30) := ⟨⟨by decide +kernel, by decide +kernel⟩, List.mem_of_getElem? (i := 500) (by decide +kernel), List.mem_of_getElem? (i := 628) (by decide +kernel), List.mem_of_getElem? (i := 629) (by decide +kernel)⟩
theorem lw_p15 : lw_okq (⟨"WishPinsModel", "figure", "(IIIII)I"⟩, 30) := ⟨⟨by decide +kernel, by decide +kernel⟩, List.mem_of_getElem? (i := 500) (by decide +kernel), List.mem_of_getElem? (i := 632) (by decide +kernel), List.mem_of_getElem? (i := 633) (by decide +kernel)⟩
def lw_privs_1 : List (MethodName × Nat) := [(⟨"WishPins", "failed", "(I)I"⟩, 7), (⟨"WishPins", "hasWell", "()Z"⟩, 7), (⟨"WishPins$Century", "canDo", "(II)Z"⟩, 3), (⟨"WishPins$Century", "allWishes", "()I"⟩, 3), (⟨"WishPins$Layers", "countWays", "()I"⟩, 5), (⟨"WishPins$Layers", "leastFor", "(II)I"⟩, 5), (⟨"WishPins", "tellPlain", "(I)I"⟩, 7), (⟨"WishPins", "beginBody", "(I)V"⟩, 7), (⟨"WishPins", "tellCrook", "(I)I"⟩, 7), (⟨"WishPins", "tellDouble", "(I)I"⟩, 7), (⟨"WishPinsModel", "refused", "(I)I"⟩, 30), (⟨"WishPinsModel", "cellsBarred", "(IIIJ)I"⟩, 30), (⟨"WishPinsModel", "failed", "(I)I"⟩, 30), (⟨"WishPinsModel", "readsWell", "(II)Z"⟩, 30), (⟨"WishPinsModel", "codeAt", "(II)I"⟩, 30), (⟨"WishPinsModel", "figure", "(IIIII)I"⟩, 30)]
theorem lw_r1 : ∀ q ∈ lw_privs_1, lw_okq q := List.forall_mem_cons.mpr ⟨lw_p0, List.forall_mem_cons.mpr ⟨lw_p1, List.forall_mem_cons.mpr ⟨lw_p2, List.forall_mem_cons.mpr ⟨lw_p3, List.forall_mem_cons.mpr ⟨lw_p4, List.forall_mem_cons.mpr ⟨lw_p5, List.forall_mem_cons.mpr ⟨lw_p6, List.forall_mem_cons.mpr ⟨lw_p7, List.forall_mem_cons.mpr ⟨lw_p8, List.forall_mem_cons.mpr ⟨lw_p9, List.forall_mem_cons.mpr ⟨lw_p10, List.forall_mem_cons.mpr ⟨lw_p11, List.forall_mem_cons.mpr ⟨lw_p12, List.forall_mem_cons.mpr ⟨lw_p13, List.forall_mem_cons.mpr ⟨lw_p14, List.forall_mem_cons.mpr ⟨lw_p15, fun _ h => absurd h List.not_mem_nil⟩⟩⟩⟩⟩⟩⟩⟩⟩⟩⟩⟩⟩⟩⟩⟩
theorem lw_p16 : lw_okq (⟨"WishPinsModel", "readsPin", "(II)Z"⟩, 30) := ⟨⟨by decide +kernel, by decide +kernel⟩, List.mem_of_getElem? (i := 500) (by decide +kernel), List.mem_of_getElem? (i := 636) (by decide +kernel), List.mem_of_getElem? (i := 637) (by decide +kernel)⟩
theorem lw_p17 : lw_okq (⟨"WishPinsModel", "noPin", "(I)Z"⟩, 30) := ⟨⟨by decide +kernel, by decide +kernel⟩, List.mem_of_getElem? (i := 500) (by decide +kernel), List.mem_of_getElem? (i := 644) (by decide +kernel), List.mem_of_getElem? (i := 645) (by decide +kernel)⟩
theorem lw_p18 : lw_okq (⟨"WishPinsModel", "turnOf", "(I)I"⟩, 30) := ⟨⟨by decide +kernel, by decide +kernel⟩, List.mem_of_getElem? (i := 500) (by decide +kernel), List.mem_of_getElem? (i := 648) (by decide +kernel), List.mem_of_getElem? (i := 649) (by decide +kernel)⟩
theorem lw_p19 : lw_okq (⟨"WishPinsModel", "wishOf", "(I)I"⟩, 30) := ⟨⟨by decide +kernel, by decide +kernel⟩, List.mem_of_getElem? (i := 500) (by decide +kernel), List.mem_of_getElem? (i := 655) (by decide +kernel), List.mem_of_getElem? (i := 656) (by decide +kernel)⟩
theorem lw_p20 : lw_okq (⟨"WishPinsModel", "wishBy", "(II)I"⟩, 30) := ⟨⟨by decide +kernel, by decide +kernel⟩, List.mem_of_getElem? (i := 500) (by decide +kernel), List.mem_of_getElem? (i := 659) (by decide +kernel), List.mem_of_getElem? (i := 660) (by decide +kernel)⟩
theorem lw_p21 : lw_okq (⟨"WishPinsModel", "threw", "(II)Z"⟩, 30) := ⟨⟨by decide +kernel, by decide +kernel⟩, List.mem_of_getElem? (i := 500) (by decide +kernel), List.mem_of_getElem? (i := 681) (by decide +kernel), List.mem_of_getElem? (i := 682) (by decide +kernel)⟩
theorem lw_p22 : lw_okq (⟨"WishPinsModel", "keepAll", "()V"⟩, 30) := ⟨⟨by decide +kernel, by decide +kernel⟩, List.mem_of_getElem? (i := 500) (by decide +kernel), List.mem_of_getElem? (i := 705) (by decide +kernel), List.mem_of_getElem? (i := 706) (by decide +kernel)⟩
theorem lw_p23 : lw_okq (⟨"WishPinsModel", "centuryBy", "(III)I"⟩, 30) := ⟨⟨by decide +kernel, by decide +kernel⟩, List.mem_of_getElem? (i := 500) (by decide +kernel), List.mem_of_getElem? (i := 709) (by decide +kernel), List.mem_of_getElem? (i := 710) (by decide +kernel)⟩
theorem lw_p24 : lw_okq (⟨"WishPinsModel", "bringBack", "()V"⟩, 30) := ⟨⟨by decide +kernel, by decide +kernel⟩, List.mem_of_getElem? (i := 500) (by decide +kernel), List.mem_of_getElem? (i := 713) (by decide +kernel), List.mem_of_getElem? (i := 714) (by decide +kernel)⟩
theorem lw_p25 : lw_okq (⟨"WishPinsModel", "countWays", "(I)V"⟩, 30) := ⟨⟨by decide +kernel, by decide +kernel⟩, List.mem_of_getElem? (i := 500) (by decide +kernel), List.mem_of_getElem? (i := 736) (by decide +kernel), List.mem_of_getElem? (i := 737) (by decide +kernel)⟩
theorem lw_p26 : lw_okq (⟨"WishPinsModel", "mayLie", "(III)Z"⟩, 30) := ⟨⟨by decide +kernel, by decide +kernel⟩, List.mem_of_getElem? (i := 500) (by decide +kernel), List.mem_of_getElem? (i := 746) (by decide +kernel), List.mem_of_getElem? (i := 747) (by decide +kernel)⟩
theorem lw_p27 : lw_okq (⟨"WishPinsModel", "firstIn", "(II)I"⟩, 30) := ⟨⟨by decide +kernel, by decide +kernel⟩, List.mem_of_getElem? (i := 500) (by decide +kernel), List.mem_of_getElem? (i := 750) (by decide +kernel), List.mem_of_getElem? (i := 751) (by decide +kernel)⟩
theorem lw_p28 : lw_okq (⟨"WishPinsModel", "areSo", "()Z"⟩, 30) := ⟨⟨by decide +kernel, by decide +kernel⟩, List.mem_of_getElem? (i := 500) (by decide +kernel), List.mem_of_getElem? (i := 766) (by decide +kernel), List.mem_of_getElem? (i := 767) (by decide +kernel)⟩
theorem lw_p29 : lw_okq (⟨"WishPinsModel", "noCell", "(II)I"⟩, 30) := ⟨⟨by decide +kernel, by decide +kernel⟩, List.mem_of_getElem? (i := 500) (by decide +kernel), List.mem_of_getElem? (i := 801) (by decide +kernel), List.mem_of_getElem? (i := 802) (by decide +kernel)⟩
theorem lw_p30 : lw_okq (⟨"WishPinsModel", "failedLong", "(I)J"⟩, 30) := ⟨⟨by decide +kernel, by decide +kernel⟩, List.mem_of_getElem? (i := 500) (by decide +kernel), List.mem_of_getElem? (i := 809) (by decide +kernel), List.mem_of_getElem? (i := 810) (by decide +kernel)⟩
theorem lw_p31 : lw_okq (⟨"WishPinsModel", "traced", "(I)V"⟩, 30) := ⟨⟨by decide +kernel, by decide +kernel⟩, List.mem_of_getElem? (i := 500) (by decide +kernel), List.mem_of_getElem? (i := 821) (by decide +kernel), List.mem_of_getElem? (i := 822) (by decide +kernel)⟩
def lw_privs_2 : List (MethodName × Nat) := [(⟨"WishPinsModel", "readsPin", "(II)Z"⟩, 30), (⟨"WishPinsModel", "noPin", "(I)Z"⟩, 30), (⟨"WishPinsModel", "turnOf", "(I)I"⟩, 30), (⟨"WishPinsModel", "wishOf", "(I)I"⟩, 30), (⟨"WishPinsModel", "wishBy", "(II)I"⟩, 30), (⟨"WishPinsModel", "threw", "(II)Z"⟩, 30), (⟨"WishPinsModel", "keepAll", "()V"⟩, 30), (⟨"WishPinsModel", "centuryBy", "(III)I"⟩, 30), (⟨"WishPinsModel", "bringBack", "()V"⟩, 30), (⟨"WishPinsModel", "countWays", "(I)V"⟩, 30), (⟨"WishPinsModel", "mayLie", "(III)Z"⟩, 30), (⟨"WishPinsModel", "firstIn", "(II)I"⟩, 30), (⟨"WishPinsModel", "areSo", "()Z"⟩, 30), (⟨"WishPinsModel", "noCell", "(II)I"⟩, 30), (⟨"WishPinsModel", "failedLong", "(I)J"⟩, 30), (⟨"WishPinsModel", "traced", "(I)V"⟩, 30)]
theorem lw_r2 : ∀ q ∈ lw_privs_2, lw_okq q := List.forall_mem_cons.mpr ⟨lw_p16, List.forall_mem_cons.mpr ⟨lw_p17, List.forall_mem_cons.mpr ⟨lw_p18, List.forall_mem_cons.mpr ⟨lw_p19, List.forall_mem_cons.mpr ⟨lw_p20, List.forall_mem_cons.mpr ⟨lw_p21, List.forall_mem_cons.mpr ⟨lw_p22, List.forall_mem_cons.mpr ⟨lw_p23, List.forall_mem_cons.mpr ⟨lw_p24, List.forall_mem_cons.mpr ⟨lw_p25, List.forall_mem_cons.mpr ⟨lw_p26, List.forall_mem_cons.mpr ⟨lw_p27, List.forall_mem_cons.mpr ⟨lw_p28, List.forall_mem_cons.mpr ⟨lw_p29, List.forall_mem_cons.mpr ⟨lw_p30, List.forall_mem_cons.mpr ⟨lw_p31, fun _ h => absurd h List.not_mem_nil⟩⟩⟩⟩⟩⟩⟩⟩⟩⟩⟩⟩⟩⟩⟩⟩
def lw_privs : List (MethodName × Nat) := lw_privs_1 ++ (lw_privs_2)
def lw_tbl : List Cond := k2_sels lw_privs ++ tables_1
theorem lw_privs_ok : ∀ q ∈ lw_privs, lw_okq q := by
  show ∀ q ∈ lw_privs_1 ++ (lw_privs_2), lw_okq q
  exact List.forall_mem_append.mpr ⟨lw_r1, lw_r2⟩
-- ===== end of PART A; then your names; then what follows =====
end
section
/-! ===== BEGIN words of one list among another's, by their places ===== -/
theorem goodIn_r {big : List Cond} (ws : List Cond) (ps : List Nat) (hp : ws = ps.filterMap (fun i => big[i]?)) (h : ws.all goodWord = true) : GoodIn big ws := by
  intro w hw
  have h1 := List.all_eq_true.mp h w hw
  rw [hp] at hw
  obtain ⟨i, -, hi⟩ := List.mem_filterMap.mp hw
  have hm : w ∈ big := by first | exact List.mem_of_getElem? hi | exact List.getElem?_mem hi
  exact ⟨hm, good_of_word h1⟩
theorem goodIn_app {big a b : List Cond} (ha : GoodIn big a) (hb : GoodIn big b) : GoodIn big (a ++ b) := fun w h => (List.mem_append.mp h).elim (ha w) (hb w)
theorem goodIn_ca {big a b : List Cond} {c : Cond} (ha : GoodIn big (c :: a)) (hb : GoodIn big b) : GoodIn big (c :: (a ++ b)) := fun w h => (List.mem_cons.mp h).elim (fun e => ha w (List.mem_cons.mpr (Or.inl e))) (fun h => (List.mem_append.mp h).elim (fun h => ha w (List.mem_cons.mpr (Or.inr h))) (hb w))
theorem goodIn_sub {big ws : List Cond} (hm : ∀ w ∈ ws, w ∈ big) (h : ws.all goodWord = true) : GoodIn big ws := fun w hw => ⟨hm w hw, good_of_word (List.all_eq_true.mp h w hw)⟩
/-! ===== END ===== -/

/-! ===== BEGIN printed: names, fields, word lists, decode rows ===== -/
def RX0 : String := "WishPins$Century"
def TX0 : u_T := fun k => match k with
  | 0 => ("WishPins$Century", "then", "LWishPins$Well;", true)
  | 1 => ("WishPins$Century", "firstWrong", "I", false)
  | _ => ("WishPins$Century", "likeBelow", "I", false)
def tyX0 : Nat → FieldType := fun k => match k with
  | 0 => .object "WishPins$Well"
  | 1 => .int
  | _ => .int
abbrev wsX00 : List Cond := u_ws RX0 TX0 3
theorem nmX0 : ∀ a, a < 3 → ∀ b, b < 3 → a ≠ b → (TX0 a).2.1 ≠ (TX0 b).2.1 := by decide +kernel
theorem tyX0_ok : ∀ k, k < 3 → parseFieldDescriptor (TX0 k).2.2.1 = some (tyX0 k) := by decide +kernel
abbrev cX0_init : ByteArray := prog_2_method_1_code
def yX0_init : MethodName := ⟨RX0, "<init>", "()V"⟩
abbrev cX0_play : ByteArray := prog_2_method_2_code
def yX0_play : MethodName := ⟨RX0, "play", "(LWishPins$Well;LWishPins$Sheet;II)V"⟩
abbrev cX0_canDo : ByteArray := prog_2_method_3_code
def yX0_canDo : MethodName := ⟨RX0, "canDo", "(II)Z"⟩
abbrev cX0_told : ByteArray := prog_2_method_4_code
def yX0_told : MethodName := ⟨RX0, "told", "(I)I"⟩
abbrev cX0_allWishes : ByteArray := prog_2_method_5_code
def yX0_allWishes : MethodName := ⟨RX0, "allWishes", "()I"⟩
def RX1 : String := "WishPins$Layers"
def TX1 : u_T := fun k => match k with
  | 0 => ("WishPins$Layers", "share", "[I", true)
  | 1 => ("WishPins$Layers", "wanted", "[I", true)
  | 2 => ("WishPins$Layers", "spare", "[I", true)
  | 3 => ("WishPins$Layers", "pins", "I", false)
  | _ => ("WishPins$Layers", "ways", "I", false)
def tyX1 : Nat → FieldType := fun k => match k with
  | 0 => .array .int
  | 1 => .array .int
  | 2 => .array .int
  | 3 => .int
  | _ => .int
abbrev wsX10 : List Cond := u_ws RX1 TX1 5
theorem nmX1 : ∀ a, a < 5 → ∀ b, b < 5 → a ≠ b → (TX1 a).2.1 ≠ (TX1 b).2.1 := by decide +kernel
theorem tyX1_ok : ∀ k, k < 5 → parseFieldDescriptor (TX1 k).2.2.1 = some (tyX1 k) := by decide +kernel
abbrev cX1_init : ByteArray := prog_3_method_1_code
def yX1_init : MethodName := ⟨RX1, "<init>", "()V"⟩
abbrev cX1_ask : ByteArray := prog_3_method_2_code
def yX1_ask : MethodName := ⟨RX1, "ask", "(LWishPins$Well;LWishPins$Sheet;I)V"⟩
abbrev cX1_countWays : ByteArray := prog_3_method_3_code
def yX1_countWays : MethodName := ⟨RX1, "countWays", "()I"⟩
abbrev cX1_firstAt : ByteArray := prog_3_method_4_code
def yX1_firstAt : MethodName := ⟨RX1, "firstAt", "(I)I"⟩
abbrev cX1_leastFor : ByteArray := prog_3_method_5_code
def yX1_leastFor : MethodName := ⟨RX1, "leastFor", "(II)I"⟩
def RX2 : String := "WishPins$Readings"
def TX2 : u_T := fun k => match k with
  | 0 => ("WishPins$Readings", "pin", "[I", true)
  | 1 => ("WishPins$Readings", "wish", "[I", true)
  | _ => ("WishPins$Readings", "count", "I", false)
def tyX2 : Nat → FieldType := fun k => match k with
  | 0 => .array .int
  | 1 => .array .int
  | _ => .int
abbrev wsX20 : List Cond := u_ws RX2 TX2 3
theorem nmX2 : ∀ a, a < 3 → ∀ b, b < 3 → a ≠ b → (TX2 a).2.1 ≠ (TX2 b).2.1 := by decide +kernel
theorem tyX2_ok : ∀ k, k < 3 → parseFieldDescriptor (TX2 k).2.2.1 = some (tyX2 k) := by decide +kernel
abbrev cX2_init : ByteArray := prog_4_method_1_code
def yX2_init : MethodName := ⟨RX2, "<init>", "()V"⟩
abbrev cX2_clear : ByteArray := prog_4_method_2_code
def yX2_clear : MethodName := ⟨RX2, "clear", "()V"⟩
abbrev cX2_add : ByteArray := prog_4_method_3_code
def yX2_add : MethodName := ⟨RX2, "add", "(II)Z"⟩
abbrev cX2_areSoWith : ByteArray := prog_4_method_4_code
def yX2_areSoWith : MethodName := ⟨RX2, "areSoWith", "(LWishPins$Well;II)Z"⟩
abbrev cX2_areSoByKey : ByteArray := prog_4_method_5_code
def yX2_areSoByKey : MethodName := ⟨RX2, "areSoByKey", "(LWishPins$Well;II)Z"⟩
def RX3 : String := "WishPins$Sheet"
def TX3 : u_T := fun k => match k with
  | 0 => ("WishPins$Sheet", "cells", "[I", true)
  | 1 => ("WishPins$Sheet", "lane", "I", false)
  | _ => ("WishPins$Sheet", "length", "I", false)
def tyX3 : Nat → FieldType := fun k => match k with
  | 0 => .array .int
  | 1 => .int
  | _ => .int
abbrev wsX30 : List Cond := u_ws RX3 TX3 3
theorem nmX3 : ∀ a, a < 3 → ∀ b, b < 3 → a ≠ b → (TX3 a).2.1 ≠ (TX3 b).2.1 := by decide +kernel
theorem tyX3_ok : ∀ k, k < 3 → parseFieldDescriptor (TX3 k).2.2.1 = some (tyX3 k) := by decide +kernel
abbrev cX3_init : ByteArray := prog_5_method_1_code
def yX3_init : MethodName := ⟨RX3, "<init>", "()V"⟩
abbrev cX3_begin : ByteArray := prog_5_method_2_code
def yX3_begin : MethodName := ⟨RX3, "begin", "(II)V"⟩
abbrev cX3_end : ByteArray := prog_5_method_3_code
def yX3_end : MethodName := ⟨RX3, "end", "()V"⟩
abbrev cX3_hasRow : ByteArray := prog_5_method_4_code
def yX3_hasRow : MethodName := ⟨RX3, "hasRow", "()Z"⟩
abbrev cX3_hasCells : ByteArray := prog_5_method_5_code
def yX3_hasCells : MethodName := ⟨RX3, "hasCells", "(II)Z"⟩
abbrev cX3_faultAs : ByteArray := prog_5_method_6_code
def yX3_faultAs : MethodName := ⟨RX3, "faultAs", "(I)I"⟩
abbrev cX3_faultOfCells : ByteArray := prog_5_method_7_code
def yX3_faultOfCells : MethodName := ⟨RX3, "faultOfCells", "(III)I"⟩
abbrev cX3_at : ByteArray := prog_5_method_8_code
def yX3_at : MethodName := ⟨RX3, "at", "(I)I"⟩
abbrev cX3_set : ByteArray := prog_5_method_9_code
def yX3_set : MethodName := ⟨RX3, "set", "(II)V"⟩
def RX4 : String := "WishPins$Well"
def TX4 : u_T := fun k => match k with
  | 0 => ("WishPins$Well", "kind", "[I", true)
  | 1 => ("WishPins$Well", "bend", "[I", true)
  | 2 => ("WishPins$Well", "year", "[I", true)
  | 3 => ("WishPins$Well", "pins", "I", false)
  | 4 => ("WishPins$Well", "slope", "I", false)
  | 5 => ("WishPins$Well", "drift", "I", false)
  | _ => ("WishPins$Well", "now", "I", false)
def tyX4 : Nat → FieldType := fun k => match k with
  | 0 => .array .int
  | 1 => .array .int
  | 2 => .array .int
  | 3 => .int
  | 4 => .int
  | 5 => .int
  | _ => .int
abbrev wsX40 : List Cond := u_ws RX4 TX4 7
theorem nmX4 : ∀ a, a < 7 → ∀ b, b < 7 → a ≠ b → (TX4 a).2.1 ≠ (TX4 b).2.1 := by decide +kernel
theorem tyX4_ok : ∀ k, k < 7 → parseFieldDescriptor (TX4 k).2.2.1 = some (tyX4 k) := by decide +kernel
abbrev cX4_init : ByteArray := prog_6_method_1_code
def yX4_init : MethodName := ⟨RX4, "<init>", "()V"⟩
abbrev cX4_fill : ByteArray := prog_6_method_2_code
def yX4_fill : MethodName := ⟨RX4, "fill", "(LWishPins$Sheet;II)V"⟩
abbrev cX4_become : ByteArray := prog_6_method_3_code
def yX4_become : MethodName := ⟨RX4, "become", "(LWishPins$Well;)V"⟩
abbrev cX4_isPin : ByteArray := prog_6_method_4_code
def yX4_isPin : MethodName := ⟨RX4, "isPin", "(I)Z"⟩
abbrev cX4_kindAt : ByteArray := prog_6_method_5_code
def yX4_kindAt : MethodName := ⟨RX4, "kindAt", "(I)I"⟩
abbrev cX4_bendAt : ByteArray := prog_6_method_6_code
def yX4_bendAt : MethodName := ⟨RX4, "bendAt", "(I)I"⟩
abbrev cX4_yearAt : ByteArray := prog_6_method_7_code
def yX4_yearAt : MethodName := ⟨RX4, "yearAt", "(I)I"⟩
abbrev cX4_turnAt : ByteArray := prog_6_method_8_code
def yX4_turnAt : MethodName := ⟨RX4, "turnAt", "(I)I"⟩
abbrev cX4_wishAt : ByteArray := prog_6_method_9_code
def yX4_wishAt : MethodName := ⟨RX4, "wishAt", "(I)I"⟩
abbrev cX4_wishNow : ByteArray := prog_6_method_10_code
def yX4_wishNow : MethodName := ⟨RX4, "wishNow", "(II)I"⟩
abbrev cX4_setBend : ByteArray := prog_6_method_11_code
def yX4_setBend : MethodName := ⟨RX4, "setBend", "(II)V"⟩
abbrev cX4_addTop : ByteArray := prog_6_method_12_code
def yX4_addTop : MethodName := ⟨RX4, "addTop", "(II)Z"⟩
abbrev cX4_dropTop : ByteArray := prog_6_method_13_code
def yX4_dropTop : MethodName := ⟨RX4, "dropTop", "()Z"⟩
def RX5 : String := "WishPins"
def TX5 : u_T := fun k => match k with
  | 0 => ("WishPins", "lying", "LWishPins$Well;", true)
  | 1 => ("WishPins", "readings", "LWishPins$Readings;", true)
  | 2 => ("WishPins", "future", "LWishPins$Century;", true)
  | 3 => ("WishPins", "orders", "LWishPins$Layers;", true)
  | 4 => ("WishPins", "sheets", "[LWishPins$Sheet;", true)
  | 5 => ("WishPins", "traced", "I", false)
  | _ => ("WishPins", "latestFault", "I", false)
def tyX5 : Nat → FieldType := fun k => match k with
  | 0 => .object "WishPins$Well"
  | 1 => .object "WishPins$Readings"
  | 2 => .object "WishPins$Century"
  | 3 => .object "WishPins$Layers"
  | 4 => .array (.object "WishPins$Sheet")
  | 5 => .int
  | _ => .int
abbrev wsX50 : List Cond := u_ws RX5 TX5 7
theorem nmX5 : ∀ a, a < 7 → ∀ b, b < 7 → a ≠ b → (TX5 a).2.1 ≠ (TX5 b).2.1 := by decide +kernel
theorem tyX5_ok : ∀ k, k < 7 → parseFieldDescriptor (TX5 k).2.2.1 = some (tyX5 k) := by decide +kernel
abbrev cX5_init : ByteArray := prog_1_method_1_code
def yX5_init : MethodName := ⟨RX5, "<init>", "()V"⟩
abbrev cX5_well : ByteArray := prog_1_method_2_code
def yX5_well : MethodName := ⟨RX5, "well", "(IIII)I"⟩
abbrev cX5_ofPin : ByteArray := prog_1_method_3_code
def yX5_ofPin : MethodName := ⟨RX5, "ofPin", "(II)I"⟩
abbrev cX5_bend : ByteArray := prog_1_method_4_code
def yX5_bend : MethodName := ⟨RX5, "bend", "(II)I"⟩
abbrev cX5_rekey : ByteArray := prog_1_method_5_code
def yX5_rekey : MethodName := ⟨RX5, "rekey", "(II)I"⟩
abbrev cX5_wished : ByteArray := prog_1_method_6_code
def yX5_wished : MethodName := ⟨RX5, "wished", "(I)I"⟩
abbrev cX5_throwIn : ByteArray := prog_1_method_7_code
def yX5_throwIn : MethodName := ⟨RX5, "throwIn", "(II)I"⟩
abbrev cX5_fish : ByteArray := prog_1_method_8_code
def yX5_fish : MethodName := ⟨RX5, "fish", "()I"⟩
abbrev cX5_years : ByteArray := prog_1_method_9_code
def yX5_years : MethodName := ⟨RX5, "years", "(I)I"⟩
abbrev cX5_century : ByteArray := prog_1_method_10_code
def yX5_century : MethodName := ⟨RX5, "century", "(IIIII)I"⟩
abbrev cX5_quiet : ByteArray := prog_1_method_11_code
def yX5_quiet : MethodName := ⟨RX5, "quiet", "(I)I"⟩
abbrev cX5_run : ByteArray := prog_1_method_12_code
def yX5_run : MethodName := ⟨RX5, "run", "(I)I"⟩
abbrev cX5_shape : ByteArray := prog_1_method_13_code
def yX5_shape : MethodName := ⟨RX5, "shape", "(II)I"⟩
abbrev cX5_layers : ByteArray := prog_1_method_14_code
def yX5_layers : MethodName := ⟨RX5, "layers", "(IIII)I"⟩
abbrev cX5_reading : ByteArray := prog_1_method_15_code
def yX5_reading : MethodName := ⟨RX5, "reading", "(II)I"⟩
abbrev cX5_back : ByteArray := prog_1_method_16_code
def yX5_back : MethodName := ⟨RX5, "back", "(I)I"⟩
abbrev cX5_bends : ByteArray := prog_1_method_17_code
def yX5_bends : MethodName := ⟨RX5, "bends", "(I)I"⟩
abbrev cX5_kinds : ByteArray := prog_1_method_18_code
def yX5_kinds : MethodName := ⟨RX5, "kinds", "(I)I"⟩
abbrev cX5_keys : ByteArray := prog_1_method_19_code
def yX5_keys : MethodName := ⟨RX5, "keys", "(I)I"⟩
abbrev cX5_odds : ByteArray := prog_1_method_20_code
def yX5_odds : MethodName := ⟨RX5, "odds", "(III)J"⟩
abbrev cX5_sheet : ByteArray := prog_1_method_21_code
def yX5_sheet : MethodName := ⟨RX5, "sheet", "(III)I"⟩
abbrev cX5_lose : ByteArray := prog_1_method_22_code
def yX5_lose : MethodName := ⟨RX5, "lose", "(I)I"⟩
abbrev cX5_put : ByteArray := prog_1_method_23_code
def yX5_put : MethodName := ⟨RX5, "put", "(III)I"⟩
abbrev cX5_cell : ByteArray := prog_1_method_24_code
def yX5_cell : MethodName := ⟨RX5, "cell", "(III)J"⟩
abbrev cX5_copy : ByteArray := prog_1_method_25_code
def yX5_copy : MethodName := ⟨RX5, "copy", "(IIIII)I"⟩
abbrev cX5_tell : ByteArray := prog_1_method_26_code
def yX5_tell : MethodName := ⟨RX5, "tell", "(I)I"⟩
abbrev cX5_splash : ByteArray := prog_1_method_27_code
def yX5_splash : MethodName := ⟨RX5, "splash", "(I)I"⟩
abbrev cX5_as : ByteArray := prog_1_method_28_code
def yX5_as : MethodName := ⟨RX5, "as", "(II)I"⟩
abbrev cX5_trace : ByteArray := prog_1_method_29_code
def yX5_trace : MethodName := ⟨RX5, "trace", "()I"⟩
abbrev cX5_fault : ByteArray := prog_1_method_30_code
def yX5_fault : MethodName := ⟨RX5, "fault", "()I"⟩
abbrev cX5_many : ByteArray := prog_1_method_31_code
def yX5_many : MethodName := ⟨RX5, "many", "(I)I"⟩
abbrev cX5_failed : ByteArray := prog_1_method_32_code
def yX5_failed : MethodName := ⟨RX5, "failed", "(I)I"⟩
abbrev cX5_hasWell : ByteArray := prog_1_method_33_code
def yX5_hasWell : MethodName := ⟨RX5, "hasWell", "()Z"⟩
abbrev cX5_isSheet : ByteArray := prog_1_method_34_code
def yX5_isSheet : MethodName := ⟨RX5, "isSheet", "(I)Z"⟩
abbrev cX5_isLane : ByteArray := prog_1_method_35_code
def yX5_isLane : MethodName := ⟨RX5, "isLane", "(I)Z"⟩
abbrev cX5_isKind : ByteArray := prog_1_method_36_code
def yX5_isKind : MethodName := ⟨RX5, "isKind", "(I)Z"⟩
abbrev cX5_isBend : ByteArray := prog_1_method_37_code
def yX5_isBend : MethodName := ⟨RX5, "isBend", "(I)Z"⟩
abbrev cX5_isWish : ByteArray := prog_1_method_38_code
def yX5_isWish : MethodName := ⟨RX5, "isWish", "(I)Z"⟩
abbrev cX5_isToldOfCentury : ByteArray := prog_1_method_39_code
def yX5_isToldOfCentury : MethodName := ⟨RX5, "isToldOfCentury", "(I)Z"⟩
abbrev cX5_isAct : ByteArray := prog_1_method_40_code
def yX5_isAct : MethodName := ⟨RX5, "isAct", "(II)Z"⟩
abbrev cX5_keyNumber : ByteArray := prog_1_method_41_code
def yX5_keyNumber : MethodName := ⟨RX5, "keyNumber", "(II)I"⟩
abbrev cX5_turnOf : ByteArray := prog_1_method_42_code
def yX5_turnOf : MethodName := ⟨RX5, "turnOf", "(II)I"⟩
abbrev cX5_wishOf : ByteArray := prog_1_method_43_code
def yX5_wishOf : MethodName := ⟨RX5, "wishOf", "(IIII)I"⟩
abbrev cX5_greatestShared : ByteArray := prog_1_method_44_code
def yX5_greatestShared : MethodName := ⟨RX5, "greatestShared", "(II)I"⟩
abbrev cX5_firstFault : ByteArray := prog_1_method_45_code
def yX5_firstFault : MethodName := ⟨RX5, "firstFault", "(LWishPins$Sheet;II)I"⟩
abbrev cX5_goesOn : ByteArray := prog_1_method_46_code
def yX5_goesOn : MethodName := ⟨RX5, "goesOn", "(II)Z"⟩
abbrev cX5_beginBody : ByteArray := prog_1_method_47_code
def yX5_beginBody : MethodName := ⟨RX5, "beginBody", "(I)V"⟩
abbrev cX5_tellPlain : ByteArray := prog_1_method_48_code
def yX5_tellPlain : MethodName := ⟨RX5, "tellPlain", "(I)I"⟩
abbrev cX5_tellCrook : ByteArray := prog_1_method_49_code
def yX5_tellCrook : MethodName := ⟨RX5, "tellCrook", "(I)I"⟩
abbrev cX5_tellDouble : ByteArray := prog_1_method_50_code
def yX5_tellDouble : MethodName := ⟨RX5, "tellDouble", "(I)I"⟩
def RX6 : String := "WishPinsModel"
def TX6 : u_T := fun k => match k with
  | 0 => ("WishPinsModel", "fault", "I", false)
  | 1 => ("WishPinsModel", "pins", "I", false)
  | 2 => ("WishPinsModel", "slopeNow", "I", false)
  | 3 => ("WishPinsModel", "driftNow", "I", false)
  | 4 => ("WishPinsModel", "yearNow", "I", false)
  | 5 => ("WishPinsModel", "kindOf", "[I", true)
  | 6 => ("WishPinsModel", "bendOf", "[I", true)
  | 7 => ("WishPinsModel", "yearOf", "[I", true)
  | 8 => ("WishPinsModel", "readAt", "I", false)
  | 9 => ("WishPinsModel", "readPins", "I", false)
  | 10 => ("WishPinsModel", "readSlope", "I", false)
  | 11 => ("WishPinsModel", "readDrift", "I", false)
  | 12 => ("WishPinsModel", "readYear", "I", false)
  | 13 => ("WishPinsModel", "readKind", "[I", true)
  | 14 => ("WishPinsModel", "readBend", "[I", true)
  | 15 => ("WishPinsModel", "readThrown", "[I", true)
  | 16 => ("WishPinsModel", "pinsKept", "I", false)
  | 17 => ("WishPinsModel", "yearKept", "I", false)
  | 18 => ("WishPinsModel", "kindKept", "[I", true)
  | 19 => ("WishPinsModel", "bendKept", "[I", true)
  | 20 => ("WishPinsModel", "thrownKept", "[I", true)
  | 21 => ("WishPinsModel", "waysOn", "[I", true)
  | 22 => ("WishPinsModel", "readings", "I", false)
  | 23 => ("WishPinsModel", "readingOf", "[I", true)
  | 24 => ("WishPinsModel", "readingWas", "[I", true)
  | 25 => ("WishPinsModel", "sheetSize", "[I", true)
  | 26 => ("WishPinsModel", "sheetLane", "[I", true)
  | 27 => ("WishPinsModel", "sheet", "[I", true)
  | 28 => ("WishPinsModel", "hands", "[I", true)
  | _ => ("WishPinsModel", "traceNow", "I", false)
def tyX6 : Nat → FieldType := fun k => match k with
  | 0 => .int
  | 1 => .int
  | 2 => .int
  | 3 => .int
  | 4 => .int
  | 5 => .array .int
  | 6 => .array .int
  | 7 => .array .int
  | 8 => .int
  | 9 => .int
  | 10 => .int
  | 11 => .int
  | 12 => .int
  | 13 => .array .int
  | 14 => .array .int
  | 15 => .array .int
  | 16 => .int
  | 17 => .int
  | 18 => .array .int
  | 19 => .array .int
  | 20 => .array .int
  | 21 => .array .int
  | 22 => .int
  | 23 => .array .int
  | 24 => .array .int
  | 25 => .array .int
  | 26 => .array .int
  | 27 => .array .int
  | 28 => .array .int
  | _ => .int
abbrev wsX60 : List Cond := u_ws RX6 TX6 30
theorem nmX6 : ∀ a, a < 30 → ∀ b, b < 30 → a ≠ b → (TX6 a).2.1 ≠ (TX6 b).2.1 := by decide +kernel
theorem tyX6_ok : ∀ k, k < 30 → parseFieldDescriptor (TX6 k).2.2.1 = some (tyX6 k) := by decide +kernel
abbrev cX6_init : ByteArray := prog_8_method_1_code
def yX6_init : MethodName := ⟨RX6, "<init>", "()V"⟩
abbrev cX6_in : ByteArray := prog_8_method_2_code
def yX6_in : MethodName := ⟨RX6, "in", "(JJJ)Z"⟩
abbrev cX6_lost : ByteArray := prog_8_method_3_code
def yX6_lost : MethodName := ⟨RX6, "lost", "()J"⟩
abbrev cX6_isIn : ByteArray := prog_8_method_4_code
def yX6_isIn : MethodName := ⟨RX6, "isIn", "(II)Z"⟩
abbrev cX6_bits : ByteArray := prog_8_method_5_code
def yX6_bits : MethodName := ⟨RX6, "bits", "(I)I"⟩
abbrev cX6_share : ByteArray := prog_8_method_6_code
def yX6_share : MethodName := ⟨RX6, "share", "(JJI)J"⟩
abbrev cX6_refused : ByteArray := prog_8_method_7_code
def yX6_refused : MethodName := ⟨RX6, "refused", "(I)I"⟩
abbrev cX6_failed : ByteArray := prog_8_method_8_code
def yX6_failed : MethodName := ⟨RX6, "failed", "(I)I"⟩
abbrev cX6_failedLong : ByteArray := prog_8_method_9_code
def yX6_failedLong : MethodName := ⟨RX6, "failedLong", "(I)J"⟩
abbrev cX6_noPin : ByteArray := prog_8_method_10_code
def yX6_noPin : MethodName := ⟨RX6, "noPin", "(I)Z"⟩
abbrev cX6_codeAt : ByteArray := prog_8_method_11_code
def yX6_codeAt : MethodName := ⟨RX6, "codeAt", "(II)I"⟩
abbrev cX6_figure : ByteArray := prog_8_method_12_code
def yX6_figure : MethodName := ⟨RX6, "figure", "(IIIII)I"⟩
abbrev cX6_readsPin : ByteArray := prog_8_method_13_code
def yX6_readsPin : MethodName := ⟨RX6, "readsPin", "(II)Z"⟩
abbrev cX6_readsWell : ByteArray := prog_8_method_14_code
def yX6_readsWell : MethodName := ⟨RX6, "readsWell", "(II)Z"⟩
abbrev cX6_cellsBarred : ByteArray := prog_8_method_15_code
def yX6_cellsBarred : MethodName := ⟨RX6, "cellsBarred", "(IIIJ)I"⟩
abbrev cX6_well : ByteArray := prog_8_method_16_code
def yX6_well : MethodName := ⟨RX6, "well", "(IIII)I"⟩
abbrev cX6_turnBy : ByteArray := prog_8_method_17_code
def yX6_turnBy : MethodName := ⟨RX6, "turnBy", "(II)I"⟩
abbrev cX6_turnOf : ByteArray := prog_8_method_18_code
def yX6_turnOf : MethodName := ⟨RX6, "turnOf", "(I)I"⟩
abbrev cX6_wishBy : ByteArray := prog_8_method_19_code
def yX6_wishBy : MethodName := ⟨RX6, "wishBy", "(II)I"⟩
abbrev cX6_wishOf : ByteArray := prog_8_method_20_code
def yX6_wishOf : MethodName := ⟨RX6, "wishOf", "(I)I"⟩
abbrev cX6_ofPin : ByteArray := prog_8_method_21_code
def yX6_ofPin : MethodName := ⟨RX6, "ofPin", "(II)I"⟩
abbrev cX6_bend : ByteArray := prog_8_method_22_code
def yX6_bend : MethodName := ⟨RX6, "bend", "(II)I"⟩
abbrev cX6_rekey : ByteArray := prog_8_method_23_code
def yX6_rekey : MethodName := ⟨RX6, "rekey", "(II)I"⟩
abbrev cX6_wished : ByteArray := prog_8_method_24_code
def yX6_wished : MethodName := ⟨RX6, "wished", "(I)I"⟩
abbrev cX6_threw : ByteArray := prog_8_method_25_code
def yX6_threw : MethodName := ⟨RX6, "threw", "(II)Z"⟩
abbrev cX6_throwIn : ByteArray := prog_8_method_26_code
def yX6_throwIn : MethodName := ⟨RX6, "throwIn", "(II)I"⟩
abbrev cX6_fish : ByteArray := prog_8_method_27_code
def yX6_fish : MethodName := ⟨RX6, "fish", "()I"⟩
abbrev cX6_years : ByteArray := prog_8_method_28_code
def yX6_years : MethodName := ⟨RX6, "years", "(I)I"⟩
abbrev cX6_keepAll : ByteArray := prog_8_method_29_code
def yX6_keepAll : MethodName := ⟨RX6, "keepAll", "()V"⟩
abbrev cX6_bringBack : ByteArray := prog_8_method_30_code
def yX6_bringBack : MethodName := ⟨RX6, "bringBack", "()V"⟩
abbrev cX6_isPair : ByteArray := prog_8_method_31_code
def yX6_isPair : MethodName := ⟨RX6, "isPair", "(II)Z"⟩
abbrev cX6_centuryBy : ByteArray := prog_8_method_32_code
def yX6_centuryBy : MethodName := ⟨RX6, "centuryBy", "(III)I"⟩
abbrev cX6_century : ByteArray := prog_8_method_33_code
def yX6_century : MethodName := ⟨RX6, "century", "(IIIII)I"⟩
abbrev cX6_quiet : ByteArray := prog_8_method_34_code
def yX6_quiet : MethodName := ⟨RX6, "quiet", "(I)I"⟩
abbrev cX6_run : ByteArray := prog_8_method_35_code
def yX6_run : MethodName := ⟨RX6, "run", "(I)I"⟩
abbrev cX6_shape : ByteArray := prog_8_method_36_code
def yX6_shape : MethodName := ⟨RX6, "shape", "(II)I"⟩
abbrev cX6_mayLie : ByteArray := prog_8_method_37_code
def yX6_mayLie : MethodName := ⟨RX6, "mayLie", "(III)Z"⟩
abbrev cX6_countWays : ByteArray := prog_8_method_38_code
def yX6_countWays : MethodName := ⟨RX6, "countWays", "(I)V"⟩
abbrev cX6_firstIn : ByteArray := prog_8_method_39_code
def yX6_firstIn : MethodName := ⟨RX6, "firstIn", "(II)I"⟩
abbrev cX6_layers : ByteArray := prog_8_method_40_code
def yX6_layers : MethodName := ⟨RX6, "layers", "(IIII)I"⟩
abbrev cX6_reading : ByteArray := prog_8_method_41_code
def yX6_reading : MethodName := ⟨RX6, "reading", "(II)I"⟩
abbrev cX6_back : ByteArray := prog_8_method_42_code
def yX6_back : MethodName := ⟨RX6, "back", "(I)I"⟩
abbrev cX6_areSo : ByteArray := prog_8_method_43_code
def yX6_areSo : MethodName := ⟨RX6, "areSo", "()Z"⟩
abbrev cX6_bends : ByteArray := prog_8_method_44_code
def yX6_bends : MethodName := ⟨RX6, "bends", "(I)I"⟩
abbrev cX6_kinds : ByteArray := prog_8_method_45_code
def yX6_kinds : MethodName := ⟨RX6, "kinds", "(I)I"⟩
abbrev cX6_keys : ByteArray := prog_8_method_46_code
def yX6_keys : MethodName := ⟨RX6, "keys", "(I)I"⟩
abbrev cX6_odds : ByteArray := prog_8_method_47_code
def yX6_odds : MethodName := ⟨RX6, "odds", "(III)J"⟩
abbrev cX6_noSheet : ByteArray := prog_8_method_48_code
def yX6_noSheet : MethodName := ⟨RX6, "noSheet", "(I)Z"⟩
abbrev cX6_sheet : ByteArray := prog_8_method_49_code
def yX6_sheet : MethodName := ⟨RX6, "sheet", "(III)I"⟩
abbrev cX6_lose : ByteArray := prog_8_method_50_code
def yX6_lose : MethodName := ⟨RX6, "lose", "(I)I"⟩
abbrev cX6_noCell : ByteArray := prog_8_method_51_code
def yX6_noCell : MethodName := ⟨RX6, "noCell", "(II)I"⟩
abbrev cX6_put : ByteArray := prog_8_method_52_code
def yX6_put : MethodName := ⟨RX6, "put", "(III)I"⟩
abbrev cX6_cell : ByteArray := prog_8_method_53_code
def yX6_cell : MethodName := ⟨RX6, "cell", "(III)J"⟩
abbrev cX6_isBeyond : ByteArray := prog_8_method_54_code
def yX6_isBeyond : MethodName := ⟨RX6, "isBeyond", "(IJI)Z"⟩
abbrev cX6_copy : ByteArray := prog_8_method_55_code
def yX6_copy : MethodName := ⟨RX6, "copy", "(IIIII)I"⟩
abbrev cX6_traced : ByteArray := prog_8_method_56_code
def yX6_traced : MethodName := ⟨RX6, "traced", "(I)V"⟩
abbrev cX6_tell : ByteArray := prog_8_method_57_code
def yX6_tell : MethodName := ⟨RX6, "tell", "(I)I"⟩
abbrev cX6_splash : ByteArray := prog_8_method_58_code
def yX6_splash : MethodName := ⟨RX6, "splash", "(I)I"⟩
abbrev cX6_as : ByteArray := prog_8_method_59_code
def yX6_as : MethodName := ⟨RX6, "as", "(II)I"⟩
abbrev cX6_trace : ByteArray := prog_8_method_60_code
def yX6_trace : MethodName := ⟨RX6, "trace", "()I"⟩
abbrev cX6_fault : ByteArray := prog_8_method_61_code
def yX6_fault : MethodName := ⟨RX6, "fault", "()I"⟩
abbrev cX6_many : ByteArray := prog_8_method_62_code
def yX6_many : MethodName := ⟨RX6, "many", "(I)I"⟩
def RJ9 : String := "java/lang/Math"
def TJ9 : u_T := fun k => match k with
  | _ => ("", "", "", false)
def tyJ9 : Nat → FieldType := fun k => match k with
  | _ => .int
abbrev wsJ90 : List Cond := u_ws RJ9 TJ9 0
theorem nmJ9 : ∀ a, a < 0 → ∀ b, b < 0 → a ≠ b → (TJ9 a).2.1 ≠ (TJ9 b).2.1 := by decide +kernel
theorem tyJ9_ok : ∀ k, k < 0 → parseFieldDescriptor (TJ9 k).2.2.1 = some (tyJ9 k) := by decide +kernel
abbrev cJ9_floorMod_7cf53 : ByteArray := prog_9_method_50_code
def yJ9_floorMod_7cf53 : MethodName := ⟨RJ9, "floorMod", "(II)I"⟩
abbrev cJ9_max_7cf53 : ByteArray := prog_9_method_65_code
def yJ9_max_7cf53 : MethodName := ⟨RJ9, "max", "(II)I"⟩
abbrev cJ9_min_7cf53 : ByteArray := prog_9_method_69_code
def yJ9_min_7cf53 : MethodName := ⟨RJ9, "min", "(II)I"⟩
def RJ10 : String := "java/lang/System"
def TJ10 : u_T := fun k => match k with
  | _ => ("", "", "", false)
def tyJ10 : Nat → FieldType := fun k => match k with
  | _ => .int
abbrev wsJ100 : List Cond := u_ws RJ10 TJ10 0
theorem nmJ10 : ∀ a, a < 0 → ∀ b, b < 0 → a ≠ b → (TJ10 a).2.1 ≠ (TJ10 b).2.1 := by decide +kernel
theorem tyJ10_ok : ∀ k, k < 0 → parseFieldDescriptor (TJ10 k).2.2.1 = some (tyJ10 k) := by decide +kernel
def RL : String := "WishPinsLaw"
abbrev cL_law : ByteArray := code
def yL_law : MethodName := ⟨RL, "law", "([I)Z"⟩
def wsX4_init : List Cond := .code yX4_init cX4_init 1 none :: ([.methodLink RX4 3 objectInit, .instanceMethod objectInit, .code objectInit ⟨#[0xb1]⟩ 1 none, .arrayClass .int, .fieldLink RX4 9 "WishPins$Well" "kind" "[I", .fieldLink RX4 15 "WishPins$Well" "bend" "[I", .fieldLink RX4 18 "WishPins$Well" "year" "[I"] ++ wsX40)
def wsX0_init : List Cond := .code yX0_init cX0_init 1 none :: ([.methodLink RX0 3 objectInit, .instanceMethod objectInit, .code objectInit ⟨#[0xb1]⟩ 1 none, .classLink RX0 9 RX4, .instantiable RX4 7, .initialized RX4, .fieldLink RX0 12 "WishPins$Century" "then" "LWishPins$Well;", .instanceMethod yX4_init, .code yX4_init cX4_init 1 none, .methodLink RX4 3 objectInit, .arrayClass .int, .fieldLink RX4 9 "WishPins$Well" "kind" "[I", .fieldLink RX4 15 "WishPins$Well" "bend" "[I", .fieldLink RX4 18 "WishPins$Well" "year" "[I"] ++ wsX40 ++ wsX00)
def wsX4_become : List Cond := .code yX4_become cX4_become 2 none :: ([.fieldLink RX4 9 "WishPins$Well" "kind" "[I", .methodLink RX4 44 arraycopyName, .native arraycopyName, .static arraycopyName, .initialized "java/lang/System", .fieldLink RX4 15 "WishPins$Well" "bend" "[I", .fieldLink RX4 18 "WishPins$Well" "year" "[I", .fieldLink RX4 34 "WishPins$Well" "pins" "I", .fieldLink RX4 27 "WishPins$Well" "slope" "I", .fieldLink RX4 31 "WishPins$Well" "drift" "I", .fieldLink RX4 37 "WishPins$Well" "now" "I"] ++ wsX40)
def wsX3_hasCells : List Cond := .code yX3_hasCells cX3_hasCells 3 (some .boolean) :: ([.fieldLink RX3 28 "WishPins$Sheet" "length" "I"] ++ wsX30)
def wsX3_at : List Cond := .code yX3_at cX3_at 2 (some .int) :: ([.fieldLink RX3 9 "WishPins$Sheet" "cells" "[I", .methodLink RX3 39 yX3_hasCells, .instanceMethod yX3_hasCells, .selects RX3 yX3_hasCells yX3_hasCells, .initialized RX3, .code yX3_hasCells cX3_hasCells 3 (some .boolean), .fieldLink RX3 28 "WishPins$Sheet" "length" "I"] ++ wsX30)
def wsX4_dropTop : List Cond := .code yX4_dropTop cX4_dropTop 1 (some .boolean) :: ([.fieldLink RX4 34 "WishPins$Well" "pins" "I"] ++ wsX40)
def wsX4_isPin : List Cond := .code yX4_isPin cX4_isPin 2 (some .boolean) :: ([.fieldLink RX4 34 "WishPins$Well" "pins" "I"] ++ wsX40)
def wsX5_turnOf : List Cond := .code yX5_turnOf cX5_turnOf 2 (some .int) :: ([])
def wsX5_wishOf : List Cond := .code yX5_wishOf cX5_wishOf 4 (some .int) :: ([])
def wsX4_wishAt : List Cond := .code yX4_wishAt cX4_wishAt 2 (some .int) :: ([.fieldLink RX4 27 "WishPins$Well" "slope" "I", .fieldLink RX4 9 "WishPins$Well" "kind" "[I", .fieldLink RX4 15 "WishPins$Well" "bend" "[I", .fieldLink RX4 31 "WishPins$Well" "drift" "I", .fieldLink RX4 18 "WishPins$Well" "year" "[I", .methodLink RX4 50 yX4_isPin, .instanceMethod yX4_isPin, .selects RX4 yX4_isPin yX4_isPin, .initialized RX4, .code yX4_isPin cX4_isPin 2 (some .boolean), .fieldLink RX4 34 "WishPins$Well" "pins" "I", .static yX5_turnOf, .initialized RX5, .code yX5_turnOf cX5_turnOf 2 (some .int), .static yX5_wishOf, .code yX5_wishOf cX5_wishOf 4 (some .int)] ++ wsX40)
def wsX4_addTop : List Cond := .code yX4_addTop cX4_addTop 3 (some .boolean) :: ([.fieldLink RX4 34 "WishPins$Well" "pins" "I", .fieldLink RX4 9 "WishPins$Well" "kind" "[I", .fieldLink RX4 15 "WishPins$Well" "bend" "[I", .fieldLink RX4 18 "WishPins$Well" "year" "[I", .fieldLink RX4 37 "WishPins$Well" "now" "I"] ++ wsX40)
def wsX0_canDo_r1 : List Cond := [Cond.fieldLink RX0 12 "WishPins$Century" "then" "LWishPins$Well;", Cond.fieldLink RX0 43 "WishPins$Well" "now" "I", Cond.fieldLink RX0 46 "WishPins$Well" "pins" "I", Cond.fieldLink RX0 26 "WishPins$Century" "likeBelow" "I", Cond.methodLink RX0 39 yX4_dropTop, Cond.instanceMethod yX4_dropTop, Cond.selects RX4 yX4_dropTop yX4_dropTop, Cond.initialized RX4, Cond.code yX4_dropTop cX4_dropTop 1 (some .boolean), Cond.fieldLink RX4 34 "WishPins$Well" "pins" "I", Cond.methodLink RX0 49 yX4_wishAt, Cond.instanceMethod yX4_wishAt, Cond.selects RX4 yX4_wishAt yX4_wishAt, Cond.code yX4_wishAt cX4_wishAt 2 (some .int), Cond.fieldLink RX4 27 "WishPins$Well" "slope" "I", Cond.fieldLink RX4 9 "WishPins$Well" "kind" "[I", Cond.fieldLink RX4 15 "WishPins$Well" "bend" "[I", Cond.fieldLink RX4 31 "WishPins$Well" "drift" "I", Cond.fieldLink RX4 18 "WishPins$Well" "year" "[I", Cond.methodLink RX4 50 yX4_isPin, Cond.instanceMethod yX4_isPin, Cond.selects RX4 yX4_isPin yX4_isPin, Cond.code yX4_isPin cX4_isPin 2 (some .boolean), Cond.static yX5_turnOf]
def wsX0_canDo_r2 : List Cond := [Cond.initialized RX5, Cond.code yX5_turnOf cX5_turnOf 2 (some .int), Cond.static yX5_wishOf, Cond.code yX5_wishOf cX5_wishOf 4 (some .int), Cond.methodLink RX0 52 yX4_addTop, Cond.instanceMethod yX4_addTop, Cond.selects RX4 yX4_addTop yX4_addTop, Cond.code yX4_addTop cX4_addTop 3 (some .boolean), Cond.fieldLink RX4 37 "WishPins$Well" "now" "I"]
def wsX0_canDo : List Cond := .code yX0_canDo cX0_canDo 4 (some .boolean) :: ((wsX0_canDo_r1 ++ wsX0_canDo_r2) ++ wsX00 ++ wsX40)
def wsX0_play_r1 : List Cond := [Cond.fieldLink RX0 12 "WishPins$Century" "then" "LWishPins$Well;", Cond.fieldLink RX0 22 "WishPins$Century" "firstWrong" "I", Cond.fieldLink RX0 26 "WishPins$Century" "likeBelow" "I", Cond.methodLink RX0 18 yX4_become, Cond.instanceMethod yX4_become, Cond.selects RX4 yX4_become yX4_become, Cond.initialized RX4, Cond.code yX4_become cX4_become 2 none, Cond.fieldLink RX4 9 "WishPins$Well" "kind" "[I", Cond.methodLink RX4 44 arraycopyName, Cond.native arraycopyName, Cond.static arraycopyName, Cond.initialized "java/lang/System", Cond.fieldLink RX4 15 "WishPins$Well" "bend" "[I", Cond.fieldLink RX4 18 "WishPins$Well" "year" "[I", Cond.fieldLink RX4 34 "WishPins$Well" "pins" "I", Cond.fieldLink RX4 27 "WishPins$Well" "slope" "I", Cond.fieldLink RX4 31 "WishPins$Well" "drift" "I", Cond.fieldLink RX4 37 "WishPins$Well" "now" "I", Cond.methodLink RX0 29 yX3_at, Cond.instanceMethod yX3_at, Cond.selects RX3 yX3_at yX3_at, Cond.initialized RX3, Cond.code yX3_at cX3_at 2 (some .int)]
def wsX0_play_r2 : List Cond := [Cond.fieldLink RX3 9 "WishPins$Sheet" "cells" "[I", Cond.methodLink RX3 39 yX3_hasCells, Cond.instanceMethod yX3_hasCells, Cond.selects RX3 yX3_hasCells yX3_hasCells, Cond.code yX3_hasCells cX3_hasCells 3 (some .boolean), Cond.fieldLink RX3 28 "WishPins$Sheet" "length" "I", Cond.methodLink RX0 35 yX0_canDo, Cond.instanceMethod yX0_canDo, Cond.selects RX0 yX0_canDo yX0_canDo, Cond.initialized RX0, Cond.code yX0_canDo cX0_canDo 4 (some .boolean), Cond.fieldLink RX0 43 "WishPins$Well" "now" "I", Cond.fieldLink RX0 46 "WishPins$Well" "pins" "I", Cond.methodLink RX0 39 yX4_dropTop, Cond.instanceMethod yX4_dropTop, Cond.selects RX4 yX4_dropTop yX4_dropTop, Cond.code yX4_dropTop cX4_dropTop 1 (some .boolean), Cond.methodLink RX0 49 yX4_wishAt, Cond.instanceMethod yX4_wishAt, Cond.selects RX4 yX4_wishAt yX4_wishAt, Cond.code yX4_wishAt cX4_wishAt 2 (some .int), Cond.methodLink RX4 50 yX4_isPin, Cond.instanceMethod yX4_isPin, Cond.selects RX4 yX4_isPin yX4_isPin]
def wsX0_play_r3 : List Cond := [Cond.code yX4_isPin cX4_isPin 2 (some .boolean), Cond.static yX5_turnOf, Cond.initialized RX5, Cond.code yX5_turnOf cX5_turnOf 2 (some .int), Cond.static yX5_wishOf, Cond.code yX5_wishOf cX5_wishOf 4 (some .int), Cond.methodLink RX0 52 yX4_addTop, Cond.instanceMethod yX4_addTop, Cond.selects RX4 yX4_addTop yX4_addTop, Cond.code yX4_addTop cX4_addTop 3 (some .boolean)]
def wsX0_play : List Cond := .code yX0_play cX0_play 6 none :: ((wsX0_play_r1 ++ (wsX0_play_r2 ++ wsX0_play_r3)) ++ wsX00 ++ wsX40 ++ wsX30)
def wsX0_allWishes : List Cond := .code yX0_allWishes cX0_allWishes 3 (some .int) :: ([.fieldLink RX0 12 "WishPins$Century" "then" "LWishPins$Well;", .fieldLink RX0 46 "WishPins$Well" "pins" "I", .methodLink RX0 49 yX4_wishAt, .instanceMethod yX4_wishAt, .selects RX4 yX4_wishAt yX4_wishAt, .initialized RX4, .code yX4_wishAt cX4_wishAt 2 (some .int), .fieldLink RX4 27 "WishPins$Well" "slope" "I", .fieldLink RX4 9 "WishPins$Well" "kind" "[I", .fieldLink RX4 15 "WishPins$Well" "bend" "[I", .fieldLink RX4 31 "WishPins$Well" "drift" "I", .fieldLink RX4 18 "WishPins$Well" "year" "[I", .methodLink RX4 50 yX4_isPin, .instanceMethod yX4_isPin, .selects RX4 yX4_isPin yX4_isPin, .code yX4_isPin cX4_isPin 2 (some .boolean), .fieldLink RX4 34 "WishPins$Well" "pins" "I", .static yX5_turnOf, .initialized RX5, .code yX5_turnOf cX5_turnOf 2 (some .int), .static yX5_wishOf, .code yX5_wishOf cX5_wishOf 4 (some .int)] ++ wsX00 ++ wsX40)
def wsX0_told_r1 : List Cond := [Cond.fieldLink RX0 22 "WishPins$Century" "firstWrong" "I", Cond.fieldLink RX0 12 "WishPins$Century" "then" "LWishPins$Well;", Cond.fieldLink RX0 46 "WishPins$Well" "pins" "I", Cond.fieldLink RX0 26 "WishPins$Century" "likeBelow" "I", Cond.fieldLink RX0 43 "WishPins$Well" "now" "I", Cond.methodLink RX0 55 yX0_allWishes, Cond.instanceMethod yX0_allWishes, Cond.selects RX0 yX0_allWishes yX0_allWishes, Cond.initialized RX0, Cond.code yX0_allWishes cX0_allWishes 3 (some .int), Cond.methodLink RX0 49 yX4_wishAt, Cond.instanceMethod yX4_wishAt, Cond.selects RX4 yX4_wishAt yX4_wishAt, Cond.initialized RX4, Cond.code yX4_wishAt cX4_wishAt 2 (some .int), Cond.fieldLink RX4 27 "WishPins$Well" "slope" "I", Cond.fieldLink RX4 9 "WishPins$Well" "kind" "[I", Cond.fieldLink RX4 15 "WishPins$Well" "bend" "[I", Cond.fieldLink RX4 31 "WishPins$Well" "drift" "I", Cond.fieldLink RX4 18 "WishPins$Well" "year" "[I", Cond.methodLink RX4 50 yX4_isPin, Cond.instanceMethod yX4_isPin, Cond.selects RX4 yX4_isPin yX4_isPin, Cond.code yX4_isPin cX4_isPin 2 (some .boolean)]
def wsX0_told_r2 : List Cond := [Cond.fieldLink RX4 34 "WishPins$Well" "pins" "I", Cond.static yX5_turnOf, Cond.initialized RX5, Cond.code yX5_turnOf cX5_turnOf 2 (some .int), Cond.static yX5_wishOf, Cond.code yX5_wishOf cX5_wishOf 4 (some .int)]
def wsX0_told : List Cond := .code yX0_told cX0_told 2 (some .int) :: ((wsX0_told_r1 ++ wsX0_told_r2) ++ wsX00 ++ wsX40)
def wsX1_init : List Cond := .code yX1_init cX1_init 1 none :: ([.methodLink RX1 3 objectInit, .instanceMethod objectInit, .code objectInit ⟨#[0xb1]⟩ 1 none, .arrayClass .int, .fieldLink RX1 9 "WishPins$Layers" "share" "[I", .fieldLink RX1 15 "WishPins$Layers" "wanted" "[I", .fieldLink RX1 18 "WishPins$Layers" "spare" "[I"] ++ wsX10)
def wsX4_turnAt : List Cond := .code yX4_turnAt cX4_turnAt 2 (some .int) :: ([.fieldLink RX4 9 "WishPins$Well" "kind" "[I", .fieldLink RX4 15 "WishPins$Well" "bend" "[I", .methodLink RX4 50 yX4_isPin, .instanceMethod yX4_isPin, .selects RX4 yX4_isPin yX4_isPin, .initialized RX4, .code yX4_isPin cX4_isPin 2 (some .boolean), .fieldLink RX4 34 "WishPins$Well" "pins" "I", .static yX5_turnOf, .initialized RX5, .code yX5_turnOf cX5_turnOf 2 (some .int)] ++ wsX40)
def wsJ9_floorMod_7cf53 : List Cond := .code yJ9_floorMod_7cf53 cJ9_floorMod_7cf53 3 (some .int) :: ([])
def wsX4_yearAt : List Cond := .code yX4_yearAt cX4_yearAt 2 (some .int) :: ([.fieldLink RX4 18 "WishPins$Well" "year" "[I", .methodLink RX4 50 yX4_isPin, .instanceMethod yX4_isPin, .selects RX4 yX4_isPin yX4_isPin, .initialized RX4, .code yX4_isPin cX4_isPin 2 (some .boolean), .fieldLink RX4 34 "WishPins$Well" "pins" "I"] ++ wsX40)
def wsX1_countWays : List Cond := .code yX1_countWays cX1_countWays 5 (some .int) :: ([.fieldLink RX1 33 "WishPins$Layers" "pins" "I", .fieldLink RX1 15 "WishPins$Layers" "wanted" "[I", .fieldLink RX1 18 "WishPins$Layers" "spare" "[I"] ++ wsX10)
def wsX1_ask_r1 : List Cond := [Cond.fieldLink RX1 21 "WishPins$Well" "pins" "I", Cond.methodLink RX1 27 Lib.Math.min.name, Cond.static Lib.Math.min.name, Cond.initialized "java/lang/Math", Cond.code Lib.Math.min.name Lib.Math.min.code 2 (some .int), Cond.fieldLink RX1 33 "WishPins$Layers" "pins" "I", Cond.fieldLink RX1 18 "WishPins$Layers" "spare" "[I", Cond.fieldLink RX1 9 "WishPins$Layers" "share" "[I", Cond.fieldLink RX1 40 "WishPins$Well" "slope" "I", Cond.fieldLink RX1 15 "WishPins$Layers" "wanted" "[I", Cond.fieldLink RX1 49 "WishPins$Well" "drift" "I", Cond.fieldLink RX1 59 "WishPins$Layers" "ways" "I", Cond.methodLink RX1 34 yX3_at, Cond.instanceMethod yX3_at, Cond.selects RX3 yX3_at yX3_at, Cond.initialized RX3, Cond.code yX3_at cX3_at 2 (some .int), Cond.fieldLink RX3 9 "WishPins$Sheet" "cells" "[I", Cond.methodLink RX3 39 yX3_hasCells, Cond.instanceMethod yX3_hasCells, Cond.selects RX3 yX3_hasCells yX3_hasCells, Cond.code yX3_hasCells cX3_hasCells 3 (some .boolean), Cond.fieldLink RX3 28 "WishPins$Sheet" "length" "I", Cond.methodLink RX1 43 yX4_turnAt]
def wsX1_ask_r2 : List Cond := [Cond.instanceMethod yX4_turnAt, Cond.selects RX4 yX4_turnAt yX4_turnAt, Cond.initialized RX4, Cond.code yX4_turnAt cX4_turnAt 2 (some .int), Cond.fieldLink RX4 9 "WishPins$Well" "kind" "[I", Cond.fieldLink RX4 15 "WishPins$Well" "bend" "[I", Cond.methodLink RX4 50 yX4_isPin, Cond.instanceMethod yX4_isPin, Cond.selects RX4 yX4_isPin yX4_isPin, Cond.code yX4_isPin cX4_isPin 2 (some .boolean), Cond.fieldLink RX4 34 "WishPins$Well" "pins" "I", Cond.static yX5_turnOf, Cond.initialized RX5, Cond.code yX5_turnOf cX5_turnOf 2 (some .int), Cond.methodLink RX1 46 yJ9_floorMod_7cf53, Cond.static yJ9_floorMod_7cf53, Cond.initialized RJ9, Cond.code yJ9_floorMod_7cf53 cJ9_floorMod_7cf53 3 (some .int), Cond.methodLink RX1 52 yX4_yearAt, Cond.instanceMethod yX4_yearAt, Cond.selects RX4 yX4_yearAt yX4_yearAt, Cond.code yX4_yearAt cX4_yearAt 2 (some .int), Cond.fieldLink RX4 18 "WishPins$Well" "year" "[I", Cond.methodLink RX1 55 yX1_countWays]
def wsX1_ask_r3 : List Cond := [Cond.instanceMethod yX1_countWays, Cond.selects RX1 yX1_countWays yX1_countWays, Cond.initialized RX1, Cond.code yX1_countWays cX1_countWays 5 (some .int)]
def wsX1_ask : List Cond := .code yX1_ask cX1_ask 6 none :: ((wsX1_ask_r1 ++ (wsX1_ask_r2 ++ wsX1_ask_r3)) ++ wsX40 ++ wsX10 ++ wsX30)
def wsX1_leastFor : List Cond := .code yX1_leastFor cX1_leastFor 6 (some .int) :: ([.fieldLink RX1 33 "WishPins$Layers" "pins" "I", .fieldLink RX1 9 "WishPins$Layers" "share" "[I", .fieldLink RX1 18 "WishPins$Layers" "spare" "[I"] ++ wsX10)
def wsX1_firstAt : List Cond := .code yX1_firstAt cX1_firstAt 5 (some .int) :: ([.fieldLink RX1 59 "WishPins$Layers" "ways" "I", .fieldLink RX1 33 "WishPins$Layers" "pins" "I", .fieldLink RX1 15 "WishPins$Layers" "wanted" "[I", .methodLink RX1 62 yX1_leastFor, .instanceMethod yX1_leastFor, .selects RX1 yX1_leastFor yX1_leastFor, .initialized RX1, .code yX1_leastFor cX1_leastFor 6 (some .int), .fieldLink RX1 9 "WishPins$Layers" "share" "[I", .fieldLink RX1 18 "WishPins$Layers" "spare" "[I"] ++ wsX10)
def wsX2_init : List Cond := .code yX2_init cX2_init 1 none :: ([.methodLink RX2 3 objectInit, .instanceMethod objectInit, .code objectInit ⟨#[0xb1]⟩ 1 none, .arrayClass .int, .fieldLink RX2 9 "WishPins$Readings" "pin" "[I", .fieldLink RX2 15 "WishPins$Readings" "wish" "[I"] ++ wsX20)
def wsX2_clear : List Cond := .code yX2_clear cX2_clear 1 none :: ([.fieldLink RX2 18 "WishPins$Readings" "count" "I"] ++ wsX20)
def wsX2_add : List Cond := .code yX2_add cX2_add 3 (some .boolean) :: ([.fieldLink RX2 18 "WishPins$Readings" "count" "I", .fieldLink RX2 9 "WishPins$Readings" "pin" "[I", .fieldLink RX2 15 "WishPins$Readings" "wish" "[I"] ++ wsX20)
def wsX2_areSoWith_r1 : List Cond := [Cond.fieldLink RX2 18 "WishPins$Readings" "count" "I", Cond.fieldLink RX2 9 "WishPins$Readings" "pin" "[I", Cond.fieldLink RX2 28 "WishPins$Well" "slope" "I", Cond.fieldLink RX2 31 "WishPins$Well" "drift" "I", Cond.fieldLink RX2 15 "WishPins$Readings" "wish" "[I", Cond.methodLink RX2 22 yX4_turnAt, Cond.instanceMethod yX4_turnAt, Cond.selects RX4 yX4_turnAt yX4_turnAt, Cond.initialized RX4, Cond.code yX4_turnAt cX4_turnAt 2 (some .int), Cond.fieldLink RX4 9 "WishPins$Well" "kind" "[I", Cond.fieldLink RX4 15 "WishPins$Well" "bend" "[I", Cond.methodLink RX4 50 yX4_isPin, Cond.instanceMethod yX4_isPin, Cond.selects RX4 yX4_isPin yX4_isPin, Cond.code yX4_isPin cX4_isPin 2 (some .boolean), Cond.fieldLink RX4 34 "WishPins$Well" "pins" "I", Cond.static yX5_turnOf, Cond.initialized RX5, Cond.code yX5_turnOf cX5_turnOf 2 (some .int), Cond.methodLink RX2 34 yX4_yearAt, Cond.instanceMethod yX4_yearAt, Cond.selects RX4 yX4_yearAt yX4_yearAt, Cond.code yX4_yearAt cX4_yearAt 2 (some .int)]
def wsX2_areSoWith_r2 : List Cond := [Cond.fieldLink RX4 18 "WishPins$Well" "year" "[I", Cond.static yX5_wishOf, Cond.code yX5_wishOf cX5_wishOf 4 (some .int)]
def wsX2_areSoWith : List Cond := .code yX2_areSoWith cX2_areSoWith 7 (some .boolean) :: ((wsX2_areSoWith_r1 ++ wsX2_areSoWith_r2) ++ wsX20 ++ wsX40)
def wsX2_areSoByKey_r1 : List Cond := [Cond.fieldLink RX2 18 "WishPins$Readings" "count" "I", Cond.fieldLink RX2 9 "WishPins$Readings" "pin" "[I", Cond.fieldLink RX2 15 "WishPins$Readings" "wish" "[I", Cond.methodLink RX2 22 yX4_turnAt, Cond.instanceMethod yX4_turnAt, Cond.selects RX4 yX4_turnAt yX4_turnAt, Cond.initialized RX4, Cond.code yX4_turnAt cX4_turnAt 2 (some .int), Cond.fieldLink RX4 9 "WishPins$Well" "kind" "[I", Cond.fieldLink RX4 15 "WishPins$Well" "bend" "[I", Cond.methodLink RX4 50 yX4_isPin, Cond.instanceMethod yX4_isPin, Cond.selects RX4 yX4_isPin yX4_isPin, Cond.code yX4_isPin cX4_isPin 2 (some .boolean), Cond.fieldLink RX4 34 "WishPins$Well" "pins" "I", Cond.static yX5_turnOf, Cond.initialized RX5, Cond.code yX5_turnOf cX5_turnOf 2 (some .int), Cond.methodLink RX2 34 yX4_yearAt, Cond.instanceMethod yX4_yearAt, Cond.selects RX4 yX4_yearAt yX4_yearAt, Cond.code yX4_yearAt cX4_yearAt 2 (some .int), Cond.fieldLink RX4 18 "WishPins$Well" "year" "[I", Cond.static yX5_wishOf]
def wsX2_areSoByKey_r2 : List Cond := [Cond.code yX5_wishOf cX5_wishOf 4 (some .int)]
def wsX2_areSoByKey : List Cond := .code yX2_areSoByKey cX2_areSoByKey 6 (some .boolean) :: ((wsX2_areSoByKey_r1 ++ wsX2_areSoByKey_r2) ++ wsX20 ++ wsX40)
def wsX3_init : List Cond := .code yX3_init cX3_init 1 none :: ([.methodLink RX3 3 objectInit, .instanceMethod objectInit, .code objectInit ⟨#[0xb1]⟩ 1 none, .arrayClass .int, .fieldLink RX3 9 "WishPins$Sheet" "cells" "[I", .fieldLink RX3 15 "WishPins$Sheet" "lane" "I"] ++ wsX30)
def wsX3_begin : List Cond := .code yX3_begin cX3_begin 4 none :: ([.fieldLink RX3 15 "WishPins$Sheet" "lane" "I", .methodLink RX3 19 Lib.Math.min.name, .static Lib.Math.min.name, .initialized "java/lang/Math", .code Lib.Math.min.name Lib.Math.min.code 2 (some .int), .methodLink RX3 25 Lib.Math.max.name, .static Lib.Math.max.name, .code Lib.Math.max.name Lib.Math.max.code 2 (some .int), .fieldLink RX3 28 "WishPins$Sheet" "length" "I", .fieldLink RX3 9 "WishPins$Sheet" "cells" "[I"] ++ wsX30)
def wsX3_end : List Cond := .code yX3_end cX3_end 1 none :: ([.fieldLink RX3 15 "WishPins$Sheet" "lane" "I", .fieldLink RX3 28 "WishPins$Sheet" "length" "I"] ++ wsX30)
def wsX3_hasRow : List Cond := .code yX3_hasRow cX3_hasRow 1 (some .boolean) :: ([.fieldLink RX3 15 "WishPins$Sheet" "lane" "I"] ++ wsX30)
def wsX3_faultAs : List Cond := .code yX3_faultAs cX3_faultAs 2 (some .int) :: ([.fieldLink RX3 15 "WishPins$Sheet" "lane" "I", .methodLink RX3 31 yX3_hasRow, .instanceMethod yX3_hasRow, .selects RX3 yX3_hasRow yX3_hasRow, .initialized RX3, .code yX3_hasRow cX3_hasRow 1 (some .boolean)] ++ wsX30)
def wsX3_faultOfCells : List Cond := .code yX3_faultOfCells cX3_faultOfCells 5 (some .int) :: ([.methodLink RX3 35 yX3_faultAs, .instanceMethod yX3_faultAs, .selects RX3 yX3_faultAs yX3_faultAs, .initialized RX3, .code yX3_faultAs cX3_faultAs 2 (some .int), .fieldLink RX3 15 "WishPins$Sheet" "lane" "I", .methodLink RX3 31 yX3_hasRow, .instanceMethod yX3_hasRow, .selects RX3 yX3_hasRow yX3_hasRow, .code yX3_hasRow cX3_hasRow 1 (some .boolean), .methodLink RX3 39 yX3_hasCells, .instanceMethod yX3_hasCells, .selects RX3 yX3_hasCells yX3_hasCells, .code yX3_hasCells cX3_hasCells 3 (some .boolean), .fieldLink RX3 28 "WishPins$Sheet" "length" "I"] ++ wsX30)
def wsX3_set : List Cond := .code yX3_set cX3_set 3 none :: ([.fieldLink RX3 15 "WishPins$Sheet" "lane" "I", .fieldLink RX3 9 "WishPins$Sheet" "cells" "[I", .methodLink RX3 39 yX3_hasCells, .instanceMethod yX3_hasCells, .selects RX3 yX3_hasCells yX3_hasCells, .initialized RX3, .code yX3_hasCells cX3_hasCells 3 (some .boolean), .fieldLink RX3 28 "WishPins$Sheet" "length" "I"] ++ wsX30)
def wsX4_fill : List Cond := .code yX4_fill cX4_fill 6 none :: ([.fieldLink RX4 27 "WishPins$Well" "slope" "I", .fieldLink RX4 31 "WishPins$Well" "drift" "I", .fieldLink RX4 34 "WishPins$Well" "pins" "I", .fieldLink RX4 37 "WishPins$Well" "now" "I", .methodLink RX4 21 yX3_at, .instanceMethod yX3_at, .selects RX3 yX3_at yX3_at, .initialized RX3, .code yX3_at cX3_at 2 (some .int), .fieldLink RX3 9 "WishPins$Sheet" "cells" "[I", .methodLink RX3 39 yX3_hasCells, .instanceMethod yX3_hasCells, .selects RX3 yX3_hasCells yX3_hasCells, .code yX3_hasCells cX3_hasCells 3 (some .boolean), .fieldLink RX3 28 "WishPins$Sheet" "length" "I", .methodLink RX4 40 yX4_addTop, .instanceMethod yX4_addTop, .selects RX4 yX4_addTop yX4_addTop, .initialized RX4, .code yX4_addTop cX4_addTop 3 (some .boolean), .fieldLink RX4 9 "WishPins$Well" "kind" "[I", .fieldLink RX4 15 "WishPins$Well" "bend" "[I", .fieldLink RX4 18 "WishPins$Well" "year" "[I"] ++ wsX40 ++ wsX30)
def wsX4_kindAt : List Cond := .code yX4_kindAt cX4_kindAt 2 (some .int) :: ([.fieldLink RX4 9 "WishPins$Well" "kind" "[I", .methodLink RX4 50 yX4_isPin, .instanceMethod yX4_isPin, .selects RX4 yX4_isPin yX4_isPin, .initialized RX4, .code yX4_isPin cX4_isPin 2 (some .boolean), .fieldLink RX4 34 "WishPins$Well" "pins" "I"] ++ wsX40)
def wsX4_bendAt : List Cond := .code yX4_bendAt cX4_bendAt 2 (some .int) :: ([.fieldLink RX4 15 "WishPins$Well" "bend" "[I", .methodLink RX4 50 yX4_isPin, .instanceMethod yX4_isPin, .selects RX4 yX4_isPin yX4_isPin, .initialized RX4, .code yX4_isPin cX4_isPin 2 (some .boolean), .fieldLink RX4 34 "WishPins$Well" "pins" "I"] ++ wsX40)
def wsX4_wishNow : List Cond := .code yX4_wishNow cX4_wishNow 3 (some .int) :: ([.fieldLink RX4 27 "WishPins$Well" "slope" "I", .fieldLink RX4 31 "WishPins$Well" "drift" "I", .fieldLink RX4 37 "WishPins$Well" "now" "I", .static yX5_turnOf, .initialized RX5, .code yX5_turnOf cX5_turnOf 2 (some .int), .static yX5_wishOf, .code yX5_wishOf cX5_wishOf 4 (some .int)] ++ wsX40)
def wsX4_setBend : List Cond := .code yX4_setBend cX4_setBend 3 none :: ([.fieldLink RX4 15 "WishPins$Well" "bend" "[I", .methodLink RX4 50 yX4_isPin, .instanceMethod yX4_isPin, .selects RX4 yX4_isPin yX4_isPin, .initialized RX4, .code yX4_isPin cX4_isPin 2 (some .boolean), .fieldLink RX4 34 "WishPins$Well" "pins" "I"] ++ wsX40)
def wsX5_init_r1 : List Cond := [Cond.methodLink RX5 3 objectInit, Cond.instanceMethod objectInit, Cond.code objectInit ⟨#[0xb1]⟩ 1 none, Cond.classLink RX5 9 RX4, Cond.instantiable RX4 7, Cond.initialized RX4, Cond.fieldLink RX5 12 "WishPins" "lying" "LWishPins$Well;", Cond.classLink RX5 18 RX2, Cond.instantiable RX2 3, Cond.initialized RX2, Cond.fieldLink RX5 21 "WishPins" "readings" "LWishPins$Readings;", Cond.classLink RX5 25 RX0, Cond.instantiable RX0 3, Cond.initialized RX0, Cond.fieldLink RX5 28 "WishPins" "future" "LWishPins$Century;", Cond.classLink RX5 32 RX1, Cond.instantiable RX1 5, Cond.initialized RX1, Cond.fieldLink RX5 35 "WishPins" "orders" "LWishPins$Layers;", Cond.classLink RX5 39 RX3, Cond.fieldLink RX5 41 "WishPins" "sheets" "[LWishPins$Sheet;", Cond.instantiable RX3 3, Cond.initialized RX3, Cond.instanceMethod yX4_init]
def wsX5_init_r2 : List Cond := [Cond.code yX4_init cX4_init 1 none, Cond.methodLink RX4 3 objectInit, Cond.arrayClass .int, Cond.fieldLink RX4 9 "WishPins$Well" "kind" "[I", Cond.fieldLink RX4 15 "WishPins$Well" "bend" "[I", Cond.fieldLink RX4 18 "WishPins$Well" "year" "[I", Cond.instanceMethod yX2_init, Cond.code yX2_init cX2_init 1 none, Cond.methodLink RX2 3 objectInit, Cond.fieldLink RX2 9 "WishPins$Readings" "pin" "[I", Cond.fieldLink RX2 15 "WishPins$Readings" "wish" "[I", Cond.instanceMethod yX0_init, Cond.code yX0_init cX0_init 1 none, Cond.methodLink RX0 3 objectInit, Cond.classLink RX0 9 RX4, Cond.fieldLink RX0 12 "WishPins$Century" "then" "LWishPins$Well;", Cond.instanceMethod yX1_init, Cond.code yX1_init cX1_init 1 none, Cond.methodLink RX1 3 objectInit, Cond.fieldLink RX1 9 "WishPins$Layers" "share" "[I", Cond.fieldLink RX1 15 "WishPins$Layers" "wanted" "[I", Cond.fieldLink RX1 18 "WishPins$Layers" "spare" "[I", Cond.instanceMethod yX3_init, Cond.code yX3_init cX3_init 1 none]
def wsX5_init_r3 : List Cond := [Cond.methodLink RX3 3 objectInit, Cond.fieldLink RX3 9 "WishPins$Sheet" "cells" "[I", Cond.fieldLink RX3 15 "WishPins$Sheet" "lane" "I"]
def wsX5_init : List Cond := .code yX5_init cX5_init 2 none :: ((wsX5_init_r1 ++ (wsX5_init_r2 ++ wsX5_init_r3)) ++ wsX40 ++ wsX50 ++ wsX20 ++ wsX00 ++ wsX10 ++ wsX30)
def wsX5_isSheet : List Cond := .code yX5_isSheet cX5_isSheet 1 (some .boolean) :: ([])
def wsX5_isLane : List Cond := .code yX5_isLane cX5_isLane 1 (some .boolean) :: ([])
def wsX5_failed : List Cond := .code yX5_failed cX5_failed 2 (some .int) :: ([.fieldLink RX5 46 "WishPins" "latestFault" "I"] ++ wsX50)
def wsX5_goesOn : List Cond := .code yX5_goesOn cX5_goesOn 2 (some .boolean) :: ([])
def wsX5_firstFault : List Cond := .code yX5_firstFault cX5_firstFault 4 (some .int) :: ([.methodLink RX5 143 yX3_at, .instanceMethod yX3_at, .selects RX3 yX3_at yX3_at, .initialized RX3, .code yX3_at cX3_at 2 (some .int), .fieldLink RX3 9 "WishPins$Sheet" "cells" "[I", .methodLink RX3 39 yX3_hasCells, .instanceMethod yX3_hasCells, .selects RX3 yX3_hasCells yX3_hasCells, .code yX3_hasCells cX3_hasCells 3 (some .boolean), .fieldLink RX3 28 "WishPins$Sheet" "length" "I", .methodLink RX5 228 yX5_goesOn, .static yX5_goesOn, .initialized RX5, .code yX5_goesOn cX5_goesOn 2 (some .boolean)] ++ wsX30)
def wsX5_well_r1 : List Cond := [Cond.fieldLink RX5 46 "WishPins" "latestFault" "I", Cond.fieldLink RX5 41 "WishPins" "sheets" "[LWishPins$Sheet;", Cond.fieldLink RX5 12 "WishPins" "lying" "LWishPins$Well;", Cond.fieldLink RX5 21 "WishPins" "readings" "LWishPins$Readings;", Cond.fieldLink RX5 79 "WishPins$Well" "pins" "I", Cond.methodLink RX5 50 yX5_isSheet, Cond.static yX5_isSheet, Cond.initialized RX5, Cond.code yX5_isSheet cX5_isSheet 1 (some .boolean), Cond.methodLink RX5 54 yX5_isLane, Cond.static yX5_isLane, Cond.code yX5_isLane cX5_isLane 1 (some .boolean), Cond.methodLink RX5 57 yX3_faultAs, Cond.instanceMethod yX3_faultAs, Cond.selects RX3 yX3_faultAs yX3_faultAs, Cond.initialized RX3, Cond.code yX3_faultAs cX3_faultAs 2 (some .int), Cond.fieldLink RX3 15 "WishPins$Sheet" "lane" "I", Cond.methodLink RX3 31 yX3_hasRow, Cond.instanceMethod yX3_hasRow, Cond.selects RX3 yX3_hasRow yX3_hasRow, Cond.code yX3_hasRow cX3_hasRow 1 (some .boolean), Cond.methodLink RX5 61 yX3_hasCells, Cond.instanceMethod yX3_hasCells]
def wsX5_well_r2 : List Cond := [Cond.selects RX3 yX3_hasCells yX3_hasCells, Cond.code yX3_hasCells cX3_hasCells 3 (some .boolean), Cond.fieldLink RX3 28 "WishPins$Sheet" "length" "I", Cond.methodLink RX5 65 yX5_failed, Cond.instanceMethod yX5_failed, Cond.selects RX5 yX5_failed yX5_failed, Cond.code yX5_failed cX5_failed 2 (some .int), Cond.methodLink RX5 68 yX5_firstFault, Cond.static yX5_firstFault, Cond.code yX5_firstFault cX5_firstFault 4 (some .int), Cond.methodLink RX5 143 yX3_at, Cond.instanceMethod yX3_at, Cond.selects RX3 yX3_at yX3_at, Cond.code yX3_at cX3_at 2 (some .int), Cond.fieldLink RX3 9 "WishPins$Sheet" "cells" "[I", Cond.methodLink RX3 39 yX3_hasCells, Cond.methodLink RX5 228 yX5_goesOn, Cond.static yX5_goesOn, Cond.code yX5_goesOn cX5_goesOn 2 (some .boolean), Cond.methodLink RX5 72 yX4_fill, Cond.instanceMethod yX4_fill, Cond.selects RX4 yX4_fill yX4_fill, Cond.initialized RX4, Cond.code yX4_fill cX4_fill 6 none]
def wsX5_well_r3 : List Cond := [Cond.fieldLink RX4 27 "WishPins$Well" "slope" "I", Cond.fieldLink RX4 31 "WishPins$Well" "drift" "I", Cond.fieldLink RX4 34 "WishPins$Well" "pins" "I", Cond.fieldLink RX4 37 "WishPins$Well" "now" "I", Cond.methodLink RX4 21 yX3_at, Cond.methodLink RX4 40 yX4_addTop, Cond.instanceMethod yX4_addTop, Cond.selects RX4 yX4_addTop yX4_addTop, Cond.code yX4_addTop cX4_addTop 3 (some .boolean), Cond.fieldLink RX4 9 "WishPins$Well" "kind" "[I", Cond.fieldLink RX4 15 "WishPins$Well" "bend" "[I", Cond.fieldLink RX4 18 "WishPins$Well" "year" "[I", Cond.methodLink RX5 76 yX2_clear, Cond.instanceMethod yX2_clear, Cond.selects RX2 yX2_clear yX2_clear, Cond.initialized RX2, Cond.code yX2_clear cX2_clear 1 none, Cond.fieldLink RX2 18 "WishPins$Readings" "count" "I"]
def wsX5_well : List Cond := .code yX5_well cX5_well 8 (some .int) :: ((wsX5_well_r1 ++ (wsX5_well_r2 ++ wsX5_well_r3)) ++ wsX50 ++ wsX40 ++ wsX30 ++ wsX20)
def wsX5_ofPin_r1 : List Cond := [Cond.fieldLink RX5 12 "WishPins" "lying" "LWishPins$Well;", Cond.fieldLink RX5 101 "WishPins$Well" "now" "I", Cond.methodLink RX5 82 yX4_isPin, Cond.instanceMethod yX4_isPin, Cond.selects RX4 yX4_isPin yX4_isPin, Cond.initialized RX4, Cond.code yX4_isPin cX4_isPin 2 (some .boolean), Cond.fieldLink RX4 34 "WishPins$Well" "pins" "I", Cond.methodLink RX5 85 yX4_kindAt, Cond.instanceMethod yX4_kindAt, Cond.selects RX4 yX4_kindAt yX4_kindAt, Cond.code yX4_kindAt cX4_kindAt 2 (some .int), Cond.fieldLink RX4 9 "WishPins$Well" "kind" "[I", Cond.methodLink RX4 50 yX4_isPin, Cond.methodLink RX5 88 yX4_bendAt, Cond.instanceMethod yX4_bendAt, Cond.selects RX4 yX4_bendAt yX4_bendAt, Cond.code yX4_bendAt cX4_bendAt 2 (some .int), Cond.fieldLink RX4 15 "WishPins$Well" "bend" "[I", Cond.methodLink RX5 91 yX4_yearAt, Cond.instanceMethod yX4_yearAt, Cond.selects RX4 yX4_yearAt yX4_yearAt, Cond.code yX4_yearAt cX4_yearAt 2 (some .int), Cond.fieldLink RX4 18 "WishPins$Well" "year" "[I"]
def wsX5_ofPin_r2 : List Cond := [Cond.methodLink RX5 94 yX5_turnOf, Cond.static yX5_turnOf, Cond.initialized RX5, Cond.code yX5_turnOf cX5_turnOf 2 (some .int), Cond.methodLink RX5 98 yX4_wishAt, Cond.instanceMethod yX4_wishAt, Cond.selects RX4 yX4_wishAt yX4_wishAt, Cond.code yX4_wishAt cX4_wishAt 2 (some .int), Cond.fieldLink RX4 27 "WishPins$Well" "slope" "I", Cond.fieldLink RX4 31 "WishPins$Well" "drift" "I", Cond.static yX5_wishOf, Cond.code yX5_wishOf cX5_wishOf 4 (some .int)]
def wsX5_ofPin : List Cond := .code yX5_ofPin cX5_ofPin 3 (some .int) :: ((wsX5_ofPin_r1 ++ wsX5_ofPin_r2) ++ wsX50 ++ wsX40)
def wsX5_isBend : List Cond := .code yX5_isBend cX5_isBend 1 (some .boolean) :: ([])
def wsX5_bend : List Cond := .code yX5_bend cX5_bend 4 (some .int) :: ([.fieldLink RX5 12 "WishPins" "lying" "LWishPins$Well;", .methodLink RX5 82 yX4_isPin, .instanceMethod yX4_isPin, .selects RX4 yX4_isPin yX4_isPin, .initialized RX4, .code yX4_isPin cX4_isPin 2 (some .boolean), .fieldLink RX4 34 "WishPins$Well" "pins" "I", .methodLink RX5 104 yX5_isBend, .static yX5_isBend, .initialized RX5, .code yX5_isBend cX5_isBend 1 (some .boolean), .methodLink RX5 88 yX4_bendAt, .instanceMethod yX4_bendAt, .selects RX4 yX4_bendAt yX4_bendAt, .code yX4_bendAt cX4_bendAt 2 (some .int), .fieldLink RX4 15 "WishPins$Well" "bend" "[I", .methodLink RX4 50 yX4_isPin, .methodLink RX5 107 yX4_setBend, .instanceMethod yX4_setBend, .selects RX4 yX4_setBend yX4_setBend, .code yX4_setBend cX4_setBend 3 none] ++ wsX50 ++ wsX40)
def wsX5_hasWell : List Cond := .code yX5_hasWell cX5_hasWell 1 (some .boolean) :: ([.fieldLink RX5 12 "WishPins" "lying" "LWishPins$Well;", .fieldLink RX5 79 "WishPins$Well" "pins" "I"] ++ wsX50 ++ wsX40)
def wsX5_keyNumber : List Cond := .code yX5_keyNumber cX5_keyNumber 2 (some .int) :: ([])
def wsX5_rekey : List Cond := .code yX5_rekey cX5_rekey 4 (some .int) :: ([.fieldLink RX5 12 "WishPins" "lying" "LWishPins$Well;", .fieldLink RX5 115 "WishPins$Well" "slope" "I", .fieldLink RX5 118 "WishPins$Well" "drift" "I", .methodLink RX5 111 yX5_hasWell, .instanceMethod yX5_hasWell, .selects RX5 yX5_hasWell yX5_hasWell, .initialized RX5, .code yX5_hasWell cX5_hasWell 1 (some .boolean), .fieldLink RX5 79 "WishPins$Well" "pins" "I", .methodLink RX5 121 yX5_keyNumber, .static yX5_keyNumber, .code yX5_keyNumber cX5_keyNumber 2 (some .int)] ++ wsX50 ++ wsX40)
def wsX5_isWish : List Cond := .code yX5_isWish cX5_isWish 1 (some .boolean) :: ([])
def wsX5_wished_r1 : List Cond := [Cond.fieldLink RX5 12 "WishPins" "lying" "LWishPins$Well;", Cond.fieldLink RX5 79 "WishPins$Well" "pins" "I", Cond.methodLink RX5 111 yX5_hasWell, Cond.instanceMethod yX5_hasWell, Cond.selects RX5 yX5_hasWell yX5_hasWell, Cond.initialized RX5, Cond.code yX5_hasWell cX5_hasWell 1 (some .boolean), Cond.methodLink RX5 124 yX5_isWish, Cond.static yX5_isWish, Cond.code yX5_isWish cX5_isWish 1 (some .boolean), Cond.methodLink RX5 98 yX4_wishAt, Cond.instanceMethod yX4_wishAt, Cond.selects RX4 yX4_wishAt yX4_wishAt, Cond.initialized RX4, Cond.code yX4_wishAt cX4_wishAt 2 (some .int), Cond.fieldLink RX4 27 "WishPins$Well" "slope" "I", Cond.fieldLink RX4 9 "WishPins$Well" "kind" "[I", Cond.fieldLink RX4 15 "WishPins$Well" "bend" "[I", Cond.fieldLink RX4 31 "WishPins$Well" "drift" "I", Cond.fieldLink RX4 18 "WishPins$Well" "year" "[I", Cond.methodLink RX4 50 yX4_isPin, Cond.instanceMethod yX4_isPin, Cond.selects RX4 yX4_isPin yX4_isPin, Cond.code yX4_isPin cX4_isPin 2 (some .boolean)]
def wsX5_wished_r2 : List Cond := [Cond.fieldLink RX4 34 "WishPins$Well" "pins" "I", Cond.static yX5_turnOf, Cond.code yX5_turnOf cX5_turnOf 2 (some .int), Cond.static yX5_wishOf, Cond.code yX5_wishOf cX5_wishOf 4 (some .int)]
def wsX5_wished : List Cond := .code yX5_wished cX5_wished 4 (some .int) :: ((wsX5_wished_r1 ++ wsX5_wished_r2) ++ wsX50 ++ wsX40)
def wsX5_isKind : List Cond := .code yX5_isKind cX5_isKind 1 (some .boolean) :: ([])
def wsX5_throwIn_r1 : List Cond := [Cond.fieldLink RX5 12 "WishPins" "lying" "LWishPins$Well;", Cond.fieldLink RX5 79 "WishPins$Well" "pins" "I", Cond.methodLink RX5 127 yX5_isKind, Cond.static yX5_isKind, Cond.initialized RX5, Cond.code yX5_isKind cX5_isKind 1 (some .boolean), Cond.methodLink RX5 104 yX5_isBend, Cond.static yX5_isBend, Cond.code yX5_isBend cX5_isBend 1 (some .boolean), Cond.methodLink RX5 111 yX5_hasWell, Cond.instanceMethod yX5_hasWell, Cond.selects RX5 yX5_hasWell yX5_hasWell, Cond.code yX5_hasWell cX5_hasWell 1 (some .boolean), Cond.methodLink RX5 130 yX4_addTop, Cond.instanceMethod yX4_addTop, Cond.selects RX4 yX4_addTop yX4_addTop, Cond.initialized RX4, Cond.code yX4_addTop cX4_addTop 3 (some .boolean), Cond.fieldLink RX4 34 "WishPins$Well" "pins" "I", Cond.fieldLink RX4 9 "WishPins$Well" "kind" "[I", Cond.fieldLink RX4 15 "WishPins$Well" "bend" "[I", Cond.fieldLink RX4 18 "WishPins$Well" "year" "[I", Cond.fieldLink RX4 37 "WishPins$Well" "now" "I", Cond.methodLink RX5 98 yX4_wishAt]
def wsX5_throwIn_r2 : List Cond := [Cond.instanceMethod yX4_wishAt, Cond.selects RX4 yX4_wishAt yX4_wishAt, Cond.code yX4_wishAt cX4_wishAt 2 (some .int), Cond.fieldLink RX4 27 "WishPins$Well" "slope" "I", Cond.fieldLink RX4 31 "WishPins$Well" "drift" "I", Cond.methodLink RX4 50 yX4_isPin, Cond.instanceMethod yX4_isPin, Cond.selects RX4 yX4_isPin yX4_isPin, Cond.code yX4_isPin cX4_isPin 2 (some .boolean), Cond.static yX5_turnOf, Cond.code yX5_turnOf cX5_turnOf 2 (some .int), Cond.static yX5_wishOf, Cond.code yX5_wishOf cX5_wishOf 4 (some .int)]
def wsX5_throwIn : List Cond := .code yX5_throwIn cX5_throwIn 3 (some .int) :: ((wsX5_throwIn_r1 ++ wsX5_throwIn_r2) ++ wsX50 ++ wsX40)
def wsX5_fish_r1 : List Cond := [Cond.fieldLink RX5 12 "WishPins" "lying" "LWishPins$Well;", Cond.fieldLink RX5 79 "WishPins$Well" "pins" "I", Cond.fieldLink RX5 21 "WishPins" "readings" "LWishPins$Readings;", Cond.methodLink RX5 98 yX4_wishAt, Cond.instanceMethod yX4_wishAt, Cond.selects RX4 yX4_wishAt yX4_wishAt, Cond.initialized RX4, Cond.code yX4_wishAt cX4_wishAt 2 (some .int), Cond.fieldLink RX4 27 "WishPins$Well" "slope" "I", Cond.fieldLink RX4 9 "WishPins$Well" "kind" "[I", Cond.fieldLink RX4 15 "WishPins$Well" "bend" "[I", Cond.fieldLink RX4 31 "WishPins$Well" "drift" "I", Cond.fieldLink RX4 18 "WishPins$Well" "year" "[I", Cond.methodLink RX4 50 yX4_isPin, Cond.instanceMethod yX4_isPin, Cond.selects RX4 yX4_isPin yX4_isPin, Cond.code yX4_isPin cX4_isPin 2 (some .boolean), Cond.fieldLink RX4 34 "WishPins$Well" "pins" "I", Cond.static yX5_turnOf, Cond.initialized RX5, Cond.code yX5_turnOf cX5_turnOf 2 (some .int), Cond.static yX5_wishOf, Cond.code yX5_wishOf cX5_wishOf 4 (some .int), Cond.methodLink RX5 133 yX4_dropTop]
def wsX5_fish_r2 : List Cond := [Cond.instanceMethod yX4_dropTop, Cond.selects RX4 yX4_dropTop yX4_dropTop, Cond.code yX4_dropTop cX4_dropTop 1 (some .boolean), Cond.methodLink RX5 76 yX2_clear, Cond.instanceMethod yX2_clear, Cond.selects RX2 yX2_clear yX2_clear, Cond.initialized RX2, Cond.code yX2_clear cX2_clear 1 none, Cond.fieldLink RX2 18 "WishPins$Readings" "count" "I"]
def wsX5_fish : List Cond := .code yX5_fish cX5_fish 2 (some .int) :: ((wsX5_fish_r1 ++ wsX5_fish_r2) ++ wsX50 ++ wsX40 ++ wsX20)
def wsX5_years : List Cond := .code yX5_years cX5_years 2 (some .int) :: ([.fieldLink RX5 12 "WishPins" "lying" "LWishPins$Well;", .fieldLink RX5 101 "WishPins$Well" "now" "I", .methodLink RX5 111 yX5_hasWell, .instanceMethod yX5_hasWell, .selects RX5 yX5_hasWell yX5_hasWell, .initialized RX5, .code yX5_hasWell cX5_hasWell 1 (some .boolean), .fieldLink RX5 79 "WishPins$Well" "pins" "I"] ++ wsX50 ++ wsX40)
def wsX5_isToldOfCentury : List Cond := .code yX5_isToldOfCentury cX5_isToldOfCentury 1 (some .boolean) :: ([])
def wsX5_isAct : List Cond := .code yX5_isAct cX5_isAct 2 (some .boolean) :: ([.methodLink RX5 127 yX5_isKind, .static yX5_isKind, .initialized RX5, .code yX5_isKind cX5_isKind 1 (some .boolean), .methodLink RX5 104 yX5_isBend, .static yX5_isBend, .code yX5_isBend cX5_isBend 1 (some .boolean)])
def wsX5_century_r1 : List Cond := [Cond.fieldLink RX5 46 "WishPins" "latestFault" "I", Cond.fieldLink RX5 41 "WishPins" "sheets" "[LWishPins$Sheet;", Cond.fieldLink RX5 28 "WishPins" "future" "LWishPins$Century;", Cond.fieldLink RX5 12 "WishPins" "lying" "LWishPins$Well;", Cond.methodLink RX5 50 yX5_isSheet, Cond.static yX5_isSheet, Cond.initialized RX5, Cond.code yX5_isSheet cX5_isSheet 1 (some .boolean), Cond.methodLink RX5 54 yX5_isLane, Cond.static yX5_isLane, Cond.code yX5_isLane cX5_isLane 1 (some .boolean), Cond.methodLink RX5 136 yX5_isToldOfCentury, Cond.static yX5_isToldOfCentury, Cond.code yX5_isToldOfCentury cX5_isToldOfCentury 1 (some .boolean), Cond.methodLink RX5 111 yX5_hasWell, Cond.instanceMethod yX5_hasWell, Cond.selects RX5 yX5_hasWell yX5_hasWell, Cond.code yX5_hasWell cX5_hasWell 1 (some .boolean), Cond.fieldLink RX5 79 "WishPins$Well" "pins" "I", Cond.methodLink RX5 139 yX3_faultOfCells, Cond.instanceMethod yX3_faultOfCells, Cond.selects RX3 yX3_faultOfCells yX3_faultOfCells, Cond.initialized RX3, Cond.code yX3_faultOfCells cX3_faultOfCells 5 (some .int)]
def wsX5_century_r2 : List Cond := [Cond.methodLink RX3 35 yX3_faultAs, Cond.instanceMethod yX3_faultAs, Cond.selects RX3 yX3_faultAs yX3_faultAs, Cond.code yX3_faultAs cX3_faultAs 2 (some .int), Cond.fieldLink RX3 15 "WishPins$Sheet" "lane" "I", Cond.methodLink RX3 31 yX3_hasRow, Cond.instanceMethod yX3_hasRow, Cond.selects RX3 yX3_hasRow yX3_hasRow, Cond.code yX3_hasRow cX3_hasRow 1 (some .boolean), Cond.methodLink RX3 39 yX3_hasCells, Cond.instanceMethod yX3_hasCells, Cond.selects RX3 yX3_hasCells yX3_hasCells, Cond.code yX3_hasCells cX3_hasCells 3 (some .boolean), Cond.fieldLink RX3 28 "WishPins$Sheet" "length" "I", Cond.methodLink RX5 65 yX5_failed, Cond.instanceMethod yX5_failed, Cond.selects RX5 yX5_failed yX5_failed, Cond.code yX5_failed cX5_failed 2 (some .int), Cond.methodLink RX5 143 yX3_at, Cond.instanceMethod yX3_at, Cond.selects RX3 yX3_at yX3_at, Cond.code yX3_at cX3_at 2 (some .int), Cond.fieldLink RX3 9 "WishPins$Sheet" "cells" "[I", Cond.methodLink RX5 146 yX5_isAct]
def wsX5_century_r3 : List Cond := [Cond.static yX5_isAct, Cond.code yX5_isAct cX5_isAct 2 (some .boolean), Cond.methodLink RX5 127 yX5_isKind, Cond.static yX5_isKind, Cond.code yX5_isKind cX5_isKind 1 (some .boolean), Cond.methodLink RX5 104 yX5_isBend, Cond.static yX5_isBend, Cond.code yX5_isBend cX5_isBend 1 (some .boolean), Cond.methodLink RX5 149 yX0_play, Cond.instanceMethod yX0_play, Cond.selects RX0 yX0_play yX0_play, Cond.initialized RX0, Cond.code yX0_play cX0_play 6 none, Cond.fieldLink RX0 12 "WishPins$Century" "then" "LWishPins$Well;", Cond.fieldLink RX0 22 "WishPins$Century" "firstWrong" "I", Cond.fieldLink RX0 26 "WishPins$Century" "likeBelow" "I", Cond.methodLink RX0 18 yX4_become, Cond.instanceMethod yX4_become, Cond.selects RX4 yX4_become yX4_become, Cond.initialized RX4, Cond.code yX4_become cX4_become 2 none, Cond.fieldLink RX4 9 "WishPins$Well" "kind" "[I", Cond.methodLink RX4 44 arraycopyName, Cond.native arraycopyName]
def wsX5_century_r4 : List Cond := [Cond.static arraycopyName, Cond.initialized "java/lang/System", Cond.fieldLink RX4 15 "WishPins$Well" "bend" "[I", Cond.fieldLink RX4 18 "WishPins$Well" "year" "[I", Cond.fieldLink RX4 34 "WishPins$Well" "pins" "I", Cond.fieldLink RX4 27 "WishPins$Well" "slope" "I", Cond.fieldLink RX4 31 "WishPins$Well" "drift" "I", Cond.fieldLink RX4 37 "WishPins$Well" "now" "I", Cond.methodLink RX0 29 yX3_at, Cond.methodLink RX0 35 yX0_canDo, Cond.instanceMethod yX0_canDo, Cond.selects RX0 yX0_canDo yX0_canDo, Cond.code yX0_canDo cX0_canDo 4 (some .boolean), Cond.fieldLink RX0 43 "WishPins$Well" "now" "I", Cond.fieldLink RX0 46 "WishPins$Well" "pins" "I", Cond.methodLink RX0 39 yX4_dropTop, Cond.instanceMethod yX4_dropTop, Cond.selects RX4 yX4_dropTop yX4_dropTop, Cond.code yX4_dropTop cX4_dropTop 1 (some .boolean), Cond.methodLink RX0 49 yX4_wishAt, Cond.instanceMethod yX4_wishAt, Cond.selects RX4 yX4_wishAt yX4_wishAt, Cond.code yX4_wishAt cX4_wishAt 2 (some .int), Cond.methodLink RX4 50 yX4_isPin]
def wsX5_century_r5 : List Cond := [Cond.instanceMethod yX4_isPin, Cond.selects RX4 yX4_isPin yX4_isPin, Cond.code yX4_isPin cX4_isPin 2 (some .boolean), Cond.static yX5_turnOf, Cond.code yX5_turnOf cX5_turnOf 2 (some .int), Cond.static yX5_wishOf, Cond.code yX5_wishOf cX5_wishOf 4 (some .int), Cond.methodLink RX0 52 yX4_addTop, Cond.instanceMethod yX4_addTop, Cond.selects RX4 yX4_addTop yX4_addTop, Cond.code yX4_addTop cX4_addTop 3 (some .boolean), Cond.methodLink RX5 153 yX0_told, Cond.instanceMethod yX0_told, Cond.selects RX0 yX0_told yX0_told, Cond.code yX0_told cX0_told 2 (some .int), Cond.methodLink RX0 55 yX0_allWishes, Cond.instanceMethod yX0_allWishes, Cond.selects RX0 yX0_allWishes yX0_allWishes, Cond.code yX0_allWishes cX0_allWishes 3 (some .int)]
def wsX5_century : List Cond := .code yX5_century cX5_century 9 (some .int) :: ((wsX5_century_r1 ++ (wsX5_century_r2 ++ (wsX5_century_r3 ++ (wsX5_century_r4 ++ wsX5_century_r5)))) ++ wsX50 ++ wsX40 ++ wsX30 ++ wsX00)
def wsX5_quiet : List Cond := .code yX5_quiet cX5_quiet 7 (some .int) :: ([.fieldLink RX5 12 "WishPins" "lying" "LWishPins$Well;", .fieldLink RX5 79 "WishPins$Well" "pins" "I", .fieldLink RX5 101 "WishPins$Well" "now" "I", .methodLink RX5 111 yX5_hasWell, .instanceMethod yX5_hasWell, .selects RX5 yX5_hasWell yX5_hasWell, .initialized RX5, .code yX5_hasWell cX5_hasWell 1 (some .boolean), .methodLink RX5 91 yX4_yearAt, .instanceMethod yX4_yearAt, .selects RX4 yX4_yearAt yX4_yearAt, .initialized RX4, .code yX4_yearAt cX4_yearAt 2 (some .int), .fieldLink RX4 18 "WishPins$Well" "year" "[I", .methodLink RX4 50 yX4_isPin, .instanceMethod yX4_isPin, .selects RX4 yX4_isPin yX4_isPin, .code yX4_isPin cX4_isPin 2 (some .boolean), .fieldLink RX4 34 "WishPins$Well" "pins" "I"] ++ wsX50 ++ wsX40)
def wsX5_run_r1 : List Cond := [Cond.fieldLink RX5 12 "WishPins" "lying" "LWishPins$Well;", Cond.fieldLink RX5 79 "WishPins$Well" "pins" "I", Cond.methodLink RX5 111 yX5_hasWell, Cond.instanceMethod yX5_hasWell, Cond.selects RX5 yX5_hasWell yX5_hasWell, Cond.initialized RX5, Cond.code yX5_hasWell cX5_hasWell 1 (some .boolean), Cond.methodLink RX5 98 yX4_wishAt, Cond.instanceMethod yX4_wishAt, Cond.selects RX4 yX4_wishAt yX4_wishAt, Cond.initialized RX4, Cond.code yX4_wishAt cX4_wishAt 2 (some .int), Cond.fieldLink RX4 27 "WishPins$Well" "slope" "I", Cond.fieldLink RX4 9 "WishPins$Well" "kind" "[I", Cond.fieldLink RX4 15 "WishPins$Well" "bend" "[I", Cond.fieldLink RX4 31 "WishPins$Well" "drift" "I", Cond.fieldLink RX4 18 "WishPins$Well" "year" "[I", Cond.methodLink RX4 50 yX4_isPin, Cond.instanceMethod yX4_isPin, Cond.selects RX4 yX4_isPin yX4_isPin, Cond.code yX4_isPin cX4_isPin 2 (some .boolean), Cond.fieldLink RX4 34 "WishPins$Well" "pins" "I", Cond.static yX5_turnOf, Cond.code yX5_turnOf cX5_turnOf 2 (some .int)]
def wsX5_run_r2 : List Cond := [Cond.static yX5_wishOf, Cond.code yX5_wishOf cX5_wishOf 4 (some .int)]
def wsX5_run : List Cond := .code yX5_run cX5_run 6 (some .int) :: ((wsX5_run_r1 ++ wsX5_run_r2) ++ wsX50 ++ wsX40)
def wsX5_shape_r1 : List Cond := [Cond.fieldLink RX5 12 "WishPins" "lying" "LWishPins$Well;", Cond.methodLink RX5 111 yX5_hasWell, Cond.instanceMethod yX5_hasWell, Cond.selects RX5 yX5_hasWell yX5_hasWell, Cond.initialized RX5, Cond.code yX5_hasWell cX5_hasWell 1 (some .boolean), Cond.fieldLink RX5 79 "WishPins$Well" "pins" "I", Cond.methodLink RX5 127 yX5_isKind, Cond.static yX5_isKind, Cond.code yX5_isKind cX5_isKind 1 (some .boolean), Cond.methodLink RX5 124 yX5_isWish, Cond.static yX5_isWish, Cond.code yX5_isWish cX5_isWish 1 (some .boolean), Cond.methodLink RX5 156 yX4_wishNow, Cond.instanceMethod yX4_wishNow, Cond.selects RX4 yX4_wishNow yX4_wishNow, Cond.initialized RX4, Cond.code yX4_wishNow cX4_wishNow 3 (some .int), Cond.fieldLink RX4 27 "WishPins$Well" "slope" "I", Cond.fieldLink RX4 31 "WishPins$Well" "drift" "I", Cond.fieldLink RX4 37 "WishPins$Well" "now" "I", Cond.static yX5_turnOf, Cond.code yX5_turnOf cX5_turnOf 2 (some .int), Cond.static yX5_wishOf]
def wsX5_shape_r2 : List Cond := [Cond.code yX5_wishOf cX5_wishOf 4 (some .int)]
def wsX5_shape : List Cond := .code yX5_shape cX5_shape 4 (some .int) :: ((wsX5_shape_r1 ++ wsX5_shape_r2) ++ wsX50 ++ wsX40)
def wsX5_layers_r1 : List Cond := [Cond.fieldLink RX5 46 "WishPins" "latestFault" "I", Cond.fieldLink RX5 41 "WishPins" "sheets" "[LWishPins$Sheet;", Cond.fieldLink RX5 12 "WishPins" "lying" "LWishPins$Well;", Cond.fieldLink RX5 79 "WishPins$Well" "pins" "I", Cond.fieldLink RX5 35 "WishPins" "orders" "LWishPins$Layers;", Cond.fieldLink RX5 163 "WishPins$Layers" "ways" "I", Cond.methodLink RX5 50 yX5_isSheet, Cond.static yX5_isSheet, Cond.initialized RX5, Cond.code yX5_isSheet cX5_isSheet 1 (some .boolean), Cond.methodLink RX5 54 yX5_isLane, Cond.static yX5_isLane, Cond.code yX5_isLane cX5_isLane 1 (some .boolean), Cond.methodLink RX5 111 yX5_hasWell, Cond.instanceMethod yX5_hasWell, Cond.selects RX5 yX5_hasWell yX5_hasWell, Cond.code yX5_hasWell cX5_hasWell 1 (some .boolean), Cond.methodLink RX5 139 yX3_faultOfCells, Cond.instanceMethod yX3_faultOfCells, Cond.selects RX3 yX3_faultOfCells yX3_faultOfCells, Cond.initialized RX3, Cond.code yX3_faultOfCells cX3_faultOfCells 5 (some .int), Cond.methodLink RX3 35 yX3_faultAs, Cond.instanceMethod yX3_faultAs]
def wsX5_layers_r2 : List Cond := [Cond.selects RX3 yX3_faultAs yX3_faultAs, Cond.code yX3_faultAs cX3_faultAs 2 (some .int), Cond.fieldLink RX3 15 "WishPins$Sheet" "lane" "I", Cond.methodLink RX3 31 yX3_hasRow, Cond.instanceMethod yX3_hasRow, Cond.selects RX3 yX3_hasRow yX3_hasRow, Cond.code yX3_hasRow cX3_hasRow 1 (some .boolean), Cond.methodLink RX3 39 yX3_hasCells, Cond.instanceMethod yX3_hasCells, Cond.selects RX3 yX3_hasCells yX3_hasCells, Cond.code yX3_hasCells cX3_hasCells 3 (some .boolean), Cond.fieldLink RX3 28 "WishPins$Sheet" "length" "I", Cond.methodLink RX5 65 yX5_failed, Cond.instanceMethod yX5_failed, Cond.selects RX5 yX5_failed yX5_failed, Cond.code yX5_failed cX5_failed 2 (some .int), Cond.methodLink RX5 143 yX3_at, Cond.instanceMethod yX3_at, Cond.selects RX3 yX3_at yX3_at, Cond.code yX3_at cX3_at 2 (some .int), Cond.fieldLink RX3 9 "WishPins$Sheet" "cells" "[I", Cond.methodLink RX5 124 yX5_isWish, Cond.static yX5_isWish, Cond.code yX5_isWish cX5_isWish 1 (some .boolean)]
def wsX5_layers_r3 : List Cond := [Cond.methodLink RX5 159 yX1_ask, Cond.instanceMethod yX1_ask, Cond.selects RX1 yX1_ask yX1_ask, Cond.initialized RX1, Cond.code yX1_ask cX1_ask 6 none, Cond.fieldLink RX1 21 "WishPins$Well" "pins" "I", Cond.methodLink RX1 27 Lib.Math.min.name, Cond.static Lib.Math.min.name, Cond.initialized "java/lang/Math", Cond.code Lib.Math.min.name Lib.Math.min.code 2 (some .int), Cond.fieldLink RX1 33 "WishPins$Layers" "pins" "I", Cond.fieldLink RX1 18 "WishPins$Layers" "spare" "[I", Cond.fieldLink RX1 9 "WishPins$Layers" "share" "[I", Cond.fieldLink RX1 40 "WishPins$Well" "slope" "I", Cond.fieldLink RX1 15 "WishPins$Layers" "wanted" "[I", Cond.fieldLink RX1 49 "WishPins$Well" "drift" "I", Cond.fieldLink RX1 59 "WishPins$Layers" "ways" "I", Cond.methodLink RX1 34 yX3_at, Cond.methodLink RX1 43 yX4_turnAt, Cond.instanceMethod yX4_turnAt, Cond.selects RX4 yX4_turnAt yX4_turnAt, Cond.initialized RX4, Cond.code yX4_turnAt cX4_turnAt 2 (some .int), Cond.fieldLink RX4 9 "WishPins$Well" "kind" "[I"]
def wsX5_layers_r4 : List Cond := [Cond.fieldLink RX4 15 "WishPins$Well" "bend" "[I", Cond.methodLink RX4 50 yX4_isPin, Cond.instanceMethod yX4_isPin, Cond.selects RX4 yX4_isPin yX4_isPin, Cond.code yX4_isPin cX4_isPin 2 (some .boolean), Cond.fieldLink RX4 34 "WishPins$Well" "pins" "I", Cond.static yX5_turnOf, Cond.code yX5_turnOf cX5_turnOf 2 (some .int), Cond.methodLink RX1 46 yJ9_floorMod_7cf53, Cond.static yJ9_floorMod_7cf53, Cond.initialized RJ9, Cond.code yJ9_floorMod_7cf53 cJ9_floorMod_7cf53 3 (some .int), Cond.methodLink RX1 52 yX4_yearAt, Cond.instanceMethod yX4_yearAt, Cond.selects RX4 yX4_yearAt yX4_yearAt, Cond.code yX4_yearAt cX4_yearAt 2 (some .int), Cond.fieldLink RX4 18 "WishPins$Well" "year" "[I", Cond.methodLink RX1 55 yX1_countWays, Cond.instanceMethod yX1_countWays, Cond.selects RX1 yX1_countWays yX1_countWays, Cond.code yX1_countWays cX1_countWays 5 (some .int), Cond.methodLink RX5 166 yX1_firstAt, Cond.instanceMethod yX1_firstAt, Cond.selects RX1 yX1_firstAt yX1_firstAt]
def wsX5_layers_r5 : List Cond := [Cond.code yX1_firstAt cX1_firstAt 5 (some .int), Cond.methodLink RX1 62 yX1_leastFor, Cond.instanceMethod yX1_leastFor, Cond.selects RX1 yX1_leastFor yX1_leastFor, Cond.code yX1_leastFor cX1_leastFor 6 (some .int)]
def wsX5_layers : List Cond := .code yX5_layers cX5_layers 9 (some .int) :: ((wsX5_layers_r1 ++ (wsX5_layers_r2 ++ (wsX5_layers_r3 ++ (wsX5_layers_r4 ++ wsX5_layers_r5)))) ++ wsX50 ++ wsX40 ++ wsX10 ++ wsX30)
def wsX5_reading : List Cond := .code yX5_reading cX5_reading 4 (some .int) :: ([.fieldLink RX5 12 "WishPins" "lying" "LWishPins$Well;", .fieldLink RX5 21 "WishPins" "readings" "LWishPins$Readings;", .fieldLink RX5 169 "WishPins$Readings" "count" "I", .methodLink RX5 82 yX4_isPin, .instanceMethod yX4_isPin, .selects RX4 yX4_isPin yX4_isPin, .initialized RX4, .code yX4_isPin cX4_isPin 2 (some .boolean), .fieldLink RX4 34 "WishPins$Well" "pins" "I", .methodLink RX5 124 yX5_isWish, .static yX5_isWish, .initialized RX5, .code yX5_isWish cX5_isWish 1 (some .boolean), .methodLink RX5 172 yX2_add, .instanceMethod yX2_add, .selects RX2 yX2_add yX2_add, .initialized RX2, .code yX2_add cX2_add 3 (some .boolean), .fieldLink RX2 18 "WishPins$Readings" "count" "I", .fieldLink RX2 9 "WishPins$Readings" "pin" "[I", .fieldLink RX2 15 "WishPins$Readings" "wish" "[I"] ++ wsX50 ++ wsX20 ++ wsX40)
def wsX5_back : List Cond := .code yX5_back cX5_back 2 (some .int) :: ([.fieldLink RX5 21 "WishPins" "readings" "LWishPins$Readings;", .fieldLink RX5 169 "WishPins$Readings" "count" "I"] ++ wsX50 ++ wsX20)
def wsX5_bends_r1 : List Cond := [Cond.fieldLink RX5 12 "WishPins" "lying" "LWishPins$Well;", Cond.fieldLink RX5 21 "WishPins" "readings" "LWishPins$Readings;", Cond.methodLink RX5 82 yX4_isPin, Cond.instanceMethod yX4_isPin, Cond.selects RX4 yX4_isPin yX4_isPin, Cond.initialized RX4, Cond.code yX4_isPin cX4_isPin 2 (some .boolean), Cond.fieldLink RX4 34 "WishPins$Well" "pins" "I", Cond.methodLink RX5 85 yX4_kindAt, Cond.instanceMethod yX4_kindAt, Cond.selects RX4 yX4_kindAt yX4_kindAt, Cond.code yX4_kindAt cX4_kindAt 2 (some .int), Cond.fieldLink RX4 9 "WishPins$Well" "kind" "[I", Cond.methodLink RX4 50 yX4_isPin, Cond.methodLink RX5 94 yX5_turnOf, Cond.static yX5_turnOf, Cond.initialized RX5, Cond.code yX5_turnOf cX5_turnOf 2 (some .int), Cond.methodLink RX5 175 yX2_areSoWith, Cond.instanceMethod yX2_areSoWith, Cond.selects RX2 yX2_areSoWith yX2_areSoWith, Cond.initialized RX2, Cond.code yX2_areSoWith cX2_areSoWith 7 (some .boolean), Cond.fieldLink RX2 18 "WishPins$Readings" "count" "I"]
def wsX5_bends_r2 : List Cond := [Cond.fieldLink RX2 9 "WishPins$Readings" "pin" "[I", Cond.fieldLink RX2 28 "WishPins$Well" "slope" "I", Cond.fieldLink RX2 31 "WishPins$Well" "drift" "I", Cond.fieldLink RX2 15 "WishPins$Readings" "wish" "[I", Cond.methodLink RX2 22 yX4_turnAt, Cond.instanceMethod yX4_turnAt, Cond.selects RX4 yX4_turnAt yX4_turnAt, Cond.code yX4_turnAt cX4_turnAt 2 (some .int), Cond.fieldLink RX4 15 "WishPins$Well" "bend" "[I", Cond.methodLink RX2 34 yX4_yearAt, Cond.instanceMethod yX4_yearAt, Cond.selects RX4 yX4_yearAt yX4_yearAt, Cond.code yX4_yearAt cX4_yearAt 2 (some .int), Cond.fieldLink RX4 18 "WishPins$Well" "year" "[I", Cond.static yX5_wishOf, Cond.code yX5_wishOf cX5_wishOf 4 (some .int)]
def wsX5_bends : List Cond := .code yX5_bends cX5_bends 4 (some .int) :: ((wsX5_bends_r1 ++ wsX5_bends_r2) ++ wsX50 ++ wsX40 ++ wsX20)
def wsX5_kinds_r1 : List Cond := [Cond.fieldLink RX5 12 "WishPins" "lying" "LWishPins$Well;", Cond.fieldLink RX5 21 "WishPins" "readings" "LWishPins$Readings;", Cond.methodLink RX5 82 yX4_isPin, Cond.instanceMethod yX4_isPin, Cond.selects RX4 yX4_isPin yX4_isPin, Cond.initialized RX4, Cond.code yX4_isPin cX4_isPin 2 (some .boolean), Cond.fieldLink RX4 34 "WishPins$Well" "pins" "I", Cond.methodLink RX5 88 yX4_bendAt, Cond.instanceMethod yX4_bendAt, Cond.selects RX4 yX4_bendAt yX4_bendAt, Cond.code yX4_bendAt cX4_bendAt 2 (some .int), Cond.fieldLink RX4 15 "WishPins$Well" "bend" "[I", Cond.methodLink RX4 50 yX4_isPin, Cond.methodLink RX5 94 yX5_turnOf, Cond.static yX5_turnOf, Cond.initialized RX5, Cond.code yX5_turnOf cX5_turnOf 2 (some .int), Cond.methodLink RX5 175 yX2_areSoWith, Cond.instanceMethod yX2_areSoWith, Cond.selects RX2 yX2_areSoWith yX2_areSoWith, Cond.initialized RX2, Cond.code yX2_areSoWith cX2_areSoWith 7 (some .boolean), Cond.fieldLink RX2 18 "WishPins$Readings" "count" "I"]
def wsX5_kinds_r2 : List Cond := [Cond.fieldLink RX2 9 "WishPins$Readings" "pin" "[I", Cond.fieldLink RX2 28 "WishPins$Well" "slope" "I", Cond.fieldLink RX2 31 "WishPins$Well" "drift" "I", Cond.fieldLink RX2 15 "WishPins$Readings" "wish" "[I", Cond.methodLink RX2 22 yX4_turnAt, Cond.instanceMethod yX4_turnAt, Cond.selects RX4 yX4_turnAt yX4_turnAt, Cond.code yX4_turnAt cX4_turnAt 2 (some .int), Cond.fieldLink RX4 9 "WishPins$Well" "kind" "[I", Cond.methodLink RX2 34 yX4_yearAt, Cond.instanceMethod yX4_yearAt, Cond.selects RX4 yX4_yearAt yX4_yearAt, Cond.code yX4_yearAt cX4_yearAt 2 (some .int), Cond.fieldLink RX4 18 "WishPins$Well" "year" "[I", Cond.static yX5_wishOf, Cond.code yX5_wishOf cX5_wishOf 4 (some .int)]
def wsX5_kinds : List Cond := .code yX5_kinds cX5_kinds 4 (some .int) :: ((wsX5_kinds_r1 ++ wsX5_kinds_r2) ++ wsX50 ++ wsX40 ++ wsX20)
def wsX5_keys_r1 : List Cond := [Cond.fieldLink RX5 21 "WishPins" "readings" "LWishPins$Readings;", Cond.fieldLink RX5 12 "WishPins" "lying" "LWishPins$Well;", Cond.methodLink RX5 111 yX5_hasWell, Cond.instanceMethod yX5_hasWell, Cond.selects RX5 yX5_hasWell yX5_hasWell, Cond.initialized RX5, Cond.code yX5_hasWell cX5_hasWell 1 (some .boolean), Cond.fieldLink RX5 79 "WishPins$Well" "pins" "I", Cond.methodLink RX5 179 yX2_areSoByKey, Cond.instanceMethod yX2_areSoByKey, Cond.selects RX2 yX2_areSoByKey yX2_areSoByKey, Cond.initialized RX2, Cond.code yX2_areSoByKey cX2_areSoByKey 6 (some .boolean), Cond.fieldLink RX2 18 "WishPins$Readings" "count" "I", Cond.fieldLink RX2 9 "WishPins$Readings" "pin" "[I", Cond.fieldLink RX2 15 "WishPins$Readings" "wish" "[I", Cond.methodLink RX2 22 yX4_turnAt, Cond.instanceMethod yX4_turnAt, Cond.selects RX4 yX4_turnAt yX4_turnAt, Cond.initialized RX4, Cond.code yX4_turnAt cX4_turnAt 2 (some .int), Cond.fieldLink RX4 9 "WishPins$Well" "kind" "[I", Cond.fieldLink RX4 15 "WishPins$Well" "bend" "[I", Cond.methodLink RX4 50 yX4_isPin]
def wsX5_keys_r2 : List Cond := [Cond.instanceMethod yX4_isPin, Cond.selects RX4 yX4_isPin yX4_isPin, Cond.code yX4_isPin cX4_isPin 2 (some .boolean), Cond.fieldLink RX4 34 "WishPins$Well" "pins" "I", Cond.static yX5_turnOf, Cond.code yX5_turnOf cX5_turnOf 2 (some .int), Cond.methodLink RX2 34 yX4_yearAt, Cond.instanceMethod yX4_yearAt, Cond.selects RX4 yX4_yearAt yX4_yearAt, Cond.code yX4_yearAt cX4_yearAt 2 (some .int), Cond.fieldLink RX4 18 "WishPins$Well" "year" "[I", Cond.static yX5_wishOf, Cond.code yX5_wishOf cX5_wishOf 4 (some .int), Cond.methodLink RX5 121 yX5_keyNumber, Cond.static yX5_keyNumber, Cond.code yX5_keyNumber cX5_keyNumber 2 (some .int)]
def wsX5_keys : List Cond := .code yX5_keys cX5_keys 7 (some .int) :: ((wsX5_keys_r1 ++ wsX5_keys_r2) ++ wsX50 ++ wsX40 ++ wsX20)
def wsX5_greatestShared : List Cond := .code yX5_greatestShared cX5_greatestShared 3 (some .int) :: ([])
def wsX5_odds_r1 : List Cond := [Cond.constantLong RX5 182 (-9223372036854775808), Cond.fieldLink RX5 12 "WishPins" "lying" "LWishPins$Well;", Cond.methodLink RX5 127 yX5_isKind, Cond.static yX5_isKind, Cond.initialized RX5, Cond.code yX5_isKind cX5_isKind 1 (some .boolean), Cond.methodLink RX5 124 yX5_isWish, Cond.static yX5_isWish, Cond.code yX5_isWish cX5_isWish 1 (some .boolean), Cond.methodLink RX5 111 yX5_hasWell, Cond.instanceMethod yX5_hasWell, Cond.selects RX5 yX5_hasWell yX5_hasWell, Cond.code yX5_hasWell cX5_hasWell 1 (some .boolean), Cond.fieldLink RX5 79 "WishPins$Well" "pins" "I", Cond.methodLink RX5 156 yX4_wishNow, Cond.instanceMethod yX4_wishNow, Cond.selects RX4 yX4_wishNow yX4_wishNow, Cond.initialized RX4, Cond.code yX4_wishNow cX4_wishNow 3 (some .int), Cond.fieldLink RX4 27 "WishPins$Well" "slope" "I", Cond.fieldLink RX4 31 "WishPins$Well" "drift" "I", Cond.fieldLink RX4 37 "WishPins$Well" "now" "I", Cond.static yX5_turnOf, Cond.code yX5_turnOf cX5_turnOf 2 (some .int)]
def wsX5_odds_r2 : List Cond := [Cond.static yX5_wishOf, Cond.code yX5_wishOf cX5_wishOf 4 (some .int), Cond.methodLink RX5 184 yX5_greatestShared, Cond.static yX5_greatestShared, Cond.code yX5_greatestShared cX5_greatestShared 3 (some .int)]
def wsX5_odds : List Cond := .code yX5_odds cX5_odds 6 (some .long) :: ((wsX5_odds_r1 ++ wsX5_odds_r2) ++ wsX50 ++ wsX40)
def wsX5_sheet_r1 : List Cond := [Cond.fieldLink RX5 46 "WishPins" "latestFault" "I", Cond.fieldLink RX5 41 "WishPins" "sheets" "[LWishPins$Sheet;", Cond.methodLink RX5 50 yX5_isSheet, Cond.static yX5_isSheet, Cond.initialized RX5, Cond.code yX5_isSheet cX5_isSheet 1 (some .boolean), Cond.methodLink RX5 54 yX5_isLane, Cond.static yX5_isLane, Cond.code yX5_isLane cX5_isLane 1 (some .boolean), Cond.methodLink RX5 65 yX5_failed, Cond.instanceMethod yX5_failed, Cond.selects RX5 yX5_failed yX5_failed, Cond.code yX5_failed cX5_failed 2 (some .int), Cond.methodLink RX5 187 yX3_begin, Cond.instanceMethod yX3_begin, Cond.selects RX3 yX3_begin yX3_begin, Cond.initialized RX3, Cond.code yX3_begin cX3_begin 4 none, Cond.fieldLink RX3 15 "WishPins$Sheet" "lane" "I", Cond.methodLink RX3 19 Lib.Math.min.name, Cond.static Lib.Math.min.name, Cond.initialized "java/lang/Math", Cond.code Lib.Math.min.name Lib.Math.min.code 2 (some .int), Cond.methodLink RX3 25 Lib.Math.max.name]
def wsX5_sheet_r2 : List Cond := [Cond.static Lib.Math.max.name, Cond.code Lib.Math.max.name Lib.Math.max.code 2 (some .int), Cond.fieldLink RX3 28 "WishPins$Sheet" "length" "I", Cond.fieldLink RX3 9 "WishPins$Sheet" "cells" "[I"]
def wsX5_sheet : List Cond := .code yX5_sheet cX5_sheet 4 (some .int) :: ((wsX5_sheet_r1 ++ wsX5_sheet_r2) ++ wsX50 ++ wsX30)
def wsX5_lose : List Cond := .code yX5_lose cX5_lose 3 (some .int) :: ([.fieldLink RX5 41 "WishPins" "sheets" "[LWishPins$Sheet;", .methodLink RX5 50 yX5_isSheet, .static yX5_isSheet, .initialized RX5, .code yX5_isSheet cX5_isSheet 1 (some .boolean), .methodLink RX5 190 yX3_hasRow, .instanceMethod yX3_hasRow, .selects RX3 yX3_hasRow yX3_hasRow, .initialized RX3, .code yX3_hasRow cX3_hasRow 1 (some .boolean), .fieldLink RX3 15 "WishPins$Sheet" "lane" "I", .methodLink RX5 193 yX3_end, .instanceMethod yX3_end, .selects RX3 yX3_end yX3_end, .code yX3_end cX3_end 1 none, .fieldLink RX3 28 "WishPins$Sheet" "length" "I"] ++ wsX50 ++ wsX30)
def wsX5_put_r1 : List Cond := [Cond.fieldLink RX5 46 "WishPins" "latestFault" "I", Cond.fieldLink RX5 41 "WishPins" "sheets" "[LWishPins$Sheet;", Cond.methodLink RX5 50 yX5_isSheet, Cond.static yX5_isSheet, Cond.initialized RX5, Cond.code yX5_isSheet cX5_isSheet 1 (some .boolean), Cond.methodLink RX5 190 yX3_hasRow, Cond.instanceMethod yX3_hasRow, Cond.selects RX3 yX3_hasRow yX3_hasRow, Cond.initialized RX3, Cond.code yX3_hasRow cX3_hasRow 1 (some .boolean), Cond.fieldLink RX3 15 "WishPins$Sheet" "lane" "I", Cond.methodLink RX5 65 yX5_failed, Cond.instanceMethod yX5_failed, Cond.selects RX5 yX5_failed yX5_failed, Cond.code yX5_failed cX5_failed 2 (some .int), Cond.methodLink RX5 61 yX3_hasCells, Cond.instanceMethod yX3_hasCells, Cond.selects RX3 yX3_hasCells yX3_hasCells, Cond.code yX3_hasCells cX3_hasCells 3 (some .boolean), Cond.fieldLink RX3 28 "WishPins$Sheet" "length" "I", Cond.methodLink RX5 196 yX3_set, Cond.instanceMethod yX3_set, Cond.selects RX3 yX3_set yX3_set]
def wsX5_put_r2 : List Cond := [Cond.code yX3_set cX3_set 3 none, Cond.fieldLink RX3 9 "WishPins$Sheet" "cells" "[I", Cond.methodLink RX3 39 yX3_hasCells]
def wsX5_put : List Cond := .code yX5_put cX5_put 5 (some .int) :: ((wsX5_put_r1 ++ wsX5_put_r2) ++ wsX50 ++ wsX30)
def wsX5_cell_r1 : List Cond := [Cond.fieldLink RX5 46 "WishPins" "latestFault" "I", Cond.constantLong RX5 182 (-9223372036854775808), Cond.fieldLink RX5 41 "WishPins" "sheets" "[LWishPins$Sheet;", Cond.methodLink RX5 50 yX5_isSheet, Cond.static yX5_isSheet, Cond.initialized RX5, Cond.code yX5_isSheet cX5_isSheet 1 (some .boolean), Cond.methodLink RX5 54 yX5_isLane, Cond.static yX5_isLane, Cond.code yX5_isLane cX5_isLane 1 (some .boolean), Cond.methodLink RX5 139 yX3_faultOfCells, Cond.instanceMethod yX3_faultOfCells, Cond.selects RX3 yX3_faultOfCells yX3_faultOfCells, Cond.initialized RX3, Cond.code yX3_faultOfCells cX3_faultOfCells 5 (some .int), Cond.methodLink RX3 35 yX3_faultAs, Cond.instanceMethod yX3_faultAs, Cond.selects RX3 yX3_faultAs yX3_faultAs, Cond.code yX3_faultAs cX3_faultAs 2 (some .int), Cond.fieldLink RX3 15 "WishPins$Sheet" "lane" "I", Cond.methodLink RX3 31 yX3_hasRow, Cond.instanceMethod yX3_hasRow, Cond.selects RX3 yX3_hasRow yX3_hasRow, Cond.code yX3_hasRow cX3_hasRow 1 (some .boolean)]
def wsX5_cell_r2 : List Cond := [Cond.methodLink RX3 39 yX3_hasCells, Cond.instanceMethod yX3_hasCells, Cond.selects RX3 yX3_hasCells yX3_hasCells, Cond.code yX3_hasCells cX3_hasCells 3 (some .boolean), Cond.fieldLink RX3 28 "WishPins$Sheet" "length" "I", Cond.methodLink RX5 143 yX3_at, Cond.instanceMethod yX3_at, Cond.selects RX3 yX3_at yX3_at, Cond.code yX3_at cX3_at 2 (some .int), Cond.fieldLink RX3 9 "WishPins$Sheet" "cells" "[I"]
def wsX5_cell : List Cond := .code yX5_cell cX5_cell 6 (some .long) :: ((wsX5_cell_r1 ++ wsX5_cell_r2) ++ wsX50 ++ wsX30)
def wsX5_copy_r1 : List Cond := [Cond.fieldLink RX5 46 "WishPins" "latestFault" "I", Cond.fieldLink RX5 41 "WishPins" "sheets" "[LWishPins$Sheet;", Cond.fieldLink RX5 199 "WishPins$Sheet" "lane" "I", Cond.fieldLink RX5 202 "WishPins$Sheet" "cells" "[I", Cond.methodLink RX5 206 arraycopyName, Cond.native arraycopyName, Cond.static arraycopyName, Cond.initialized "java/lang/System", Cond.methodLink RX5 50 yX5_isSheet, Cond.static yX5_isSheet, Cond.initialized RX5, Cond.code yX5_isSheet cX5_isSheet 1 (some .boolean), Cond.methodLink RX5 190 yX3_hasRow, Cond.instanceMethod yX3_hasRow, Cond.selects RX3 yX3_hasRow yX3_hasRow, Cond.initialized RX3, Cond.code yX3_hasRow cX3_hasRow 1 (some .boolean), Cond.fieldLink RX3 15 "WishPins$Sheet" "lane" "I", Cond.methodLink RX5 65 yX5_failed, Cond.instanceMethod yX5_failed, Cond.selects RX5 yX5_failed yX5_failed, Cond.code yX5_failed cX5_failed 2 (some .int), Cond.methodLink RX5 61 yX3_hasCells, Cond.instanceMethod yX3_hasCells]
def wsX5_copy_r2 : List Cond := [Cond.selects RX3 yX3_hasCells yX3_hasCells, Cond.code yX3_hasCells cX3_hasCells 3 (some .boolean), Cond.fieldLink RX3 28 "WishPins$Sheet" "length" "I"]
def wsX5_copy : List Cond := .code yX5_copy cX5_copy 8 (some .int) :: ((wsX5_copy_r1 ++ wsX5_copy_r2) ++ wsX50 ++ wsX30)
def wsX5_beginBody : List Cond := .code yX5_beginBody cX5_beginBody 2 none :: ([.fieldLink RX5 225 "WishPins" "traced" "I"] ++ wsX50)
def wsX5_tellPlain : List Cond := .code yX5_tellPlain cX5_tellPlain 2 (some .int) :: ([.methodLink RX5 221 yX5_beginBody, .instanceMethod yX5_beginBody, .selects RX5 yX5_beginBody yX5_beginBody, .initialized RX5, .code yX5_beginBody cX5_beginBody 2 none, .fieldLink RX5 225 "WishPins" "traced" "I"] ++ wsX50)
def wsX5_tellCrook : List Cond := .code yX5_tellCrook cX5_tellCrook 2 (some .int) :: ([.methodLink RX5 221 yX5_beginBody, .instanceMethod yX5_beginBody, .selects RX5 yX5_beginBody yX5_beginBody, .initialized RX5, .code yX5_beginBody cX5_beginBody 2 none, .fieldLink RX5 225 "WishPins" "traced" "I", .methodLink RX5 212 yX5_tellPlain, .instanceMethod yX5_tellPlain, .selects RX5 yX5_tellPlain yX5_tellPlain, .code yX5_tellPlain cX5_tellPlain 2 (some .int)] ++ wsX50)
def wsX5_tellDouble : List Cond := .code yX5_tellDouble cX5_tellDouble 3 (some .int) :: ([.methodLink RX5 221 yX5_beginBody, .instanceMethod yX5_beginBody, .selects RX5 yX5_beginBody yX5_beginBody, .initialized RX5, .code yX5_beginBody cX5_beginBody 2 none, .fieldLink RX5 225 "WishPins" "traced" "I", .methodLink RX5 215 yX5_tellCrook, .instanceMethod yX5_tellCrook, .selects RX5 yX5_tellCrook yX5_tellCrook, .code yX5_tellCrook cX5_tellCrook 2 (some .int), .methodLink RX5 212 yX5_tellPlain, .instanceMethod yX5_tellPlain, .selects RX5 yX5_tellPlain yX5_tellPlain, .code yX5_tellPlain cX5_tellPlain 2 (some .int)] ++ wsX50)
def wsX5_tell_r1 : List Cond := [Cond.fieldLink RX5 12 "WishPins" "lying" "LWishPins$Well;", Cond.methodLink RX5 82 yX4_isPin, Cond.instanceMethod yX4_isPin, Cond.selects RX4 yX4_isPin yX4_isPin, Cond.initialized RX4, Cond.code yX4_isPin cX4_isPin 2 (some .boolean), Cond.fieldLink RX4 34 "WishPins$Well" "pins" "I", Cond.methodLink RX5 88 yX4_bendAt, Cond.instanceMethod yX4_bendAt, Cond.selects RX4 yX4_bendAt yX4_bendAt, Cond.code yX4_bendAt cX4_bendAt 2 (some .int), Cond.fieldLink RX4 15 "WishPins$Well" "bend" "[I", Cond.methodLink RX4 50 yX4_isPin, Cond.methodLink RX5 85 yX4_kindAt, Cond.instanceMethod yX4_kindAt, Cond.selects RX4 yX4_kindAt yX4_kindAt, Cond.code yX4_kindAt cX4_kindAt 2 (some .int), Cond.fieldLink RX4 9 "WishPins$Well" "kind" "[I", Cond.methodLink RX5 212 yX5_tellPlain, Cond.instanceMethod yX5_tellPlain, Cond.selects RX5 yX5_tellPlain yX5_tellPlain, Cond.initialized RX5, Cond.code yX5_tellPlain cX5_tellPlain 2 (some .int), Cond.methodLink RX5 221 yX5_beginBody]
def wsX5_tell_r2 : List Cond := [Cond.instanceMethod yX5_beginBody, Cond.selects RX5 yX5_beginBody yX5_beginBody, Cond.code yX5_beginBody cX5_beginBody 2 none, Cond.fieldLink RX5 225 "WishPins" "traced" "I", Cond.methodLink RX5 215 yX5_tellCrook, Cond.instanceMethod yX5_tellCrook, Cond.selects RX5 yX5_tellCrook yX5_tellCrook, Cond.code yX5_tellCrook cX5_tellCrook 2 (some .int), Cond.methodLink RX5 218 yX5_tellDouble, Cond.instanceMethod yX5_tellDouble, Cond.selects RX5 yX5_tellDouble yX5_tellDouble, Cond.code yX5_tellDouble cX5_tellDouble 3 (some .int)]
def wsX5_tell : List Cond := .code yX5_tell cX5_tell 3 (some .int) :: ((wsX5_tell_r1 ++ wsX5_tell_r2) ++ wsX50 ++ wsX40)
def wsX5_splash : List Cond := .code yX5_splash cX5_splash 2 (some .int) :: ([.fieldLink RX5 12 "WishPins" "lying" "LWishPins$Well;", .methodLink RX5 82 yX4_isPin, .instanceMethod yX4_isPin, .selects RX4 yX4_isPin yX4_isPin, .initialized RX4, .code yX4_isPin cX4_isPin 2 (some .boolean), .fieldLink RX4 34 "WishPins$Well" "pins" "I", .methodLink RX5 85 yX4_kindAt, .instanceMethod yX4_kindAt, .selects RX4 yX4_kindAt yX4_kindAt, .code yX4_kindAt cX4_kindAt 2 (some .int), .fieldLink RX4 9 "WishPins$Well" "kind" "[I", .methodLink RX4 50 yX4_isPin, .methodLink RX5 221 yX5_beginBody, .instanceMethod yX5_beginBody, .selects RX5 yX5_beginBody yX5_beginBody, .initialized RX5, .code yX5_beginBody cX5_beginBody 2 none, .fieldLink RX5 225 "WishPins" "traced" "I"] ++ wsX50 ++ wsX40)
def wsX5_as : List Cond := .code yX5_as cX5_as 3 (some .int) :: ([.fieldLink RX5 46 "WishPins" "latestFault" "I", .fieldLink RX5 12 "WishPins" "lying" "LWishPins$Well;", .methodLink RX5 82 yX4_isPin, .instanceMethod yX4_isPin, .selects RX4 yX4_isPin yX4_isPin, .initialized RX4, .code yX4_isPin cX4_isPin 2 (some .boolean), .fieldLink RX4 34 "WishPins$Well" "pins" "I", .methodLink RX5 127 yX5_isKind, .static yX5_isKind, .initialized RX5, .code yX5_isKind cX5_isKind 1 (some .boolean), .methodLink RX5 85 yX4_kindAt, .instanceMethod yX4_kindAt, .selects RX4 yX4_kindAt yX4_kindAt, .code yX4_kindAt cX4_kindAt 2 (some .int), .fieldLink RX4 9 "WishPins$Well" "kind" "[I", .methodLink RX4 50 yX4_isPin, .methodLink RX5 65 yX5_failed, .instanceMethod yX5_failed, .selects RX5 yX5_failed yX5_failed, .code yX5_failed cX5_failed 2 (some .int)] ++ wsX50 ++ wsX40)
def wsX5_trace : List Cond := .code yX5_trace cX5_trace 1 (some .int) :: ([.fieldLink RX5 225 "WishPins" "traced" "I"] ++ wsX50)
def wsX5_fault : List Cond := .code yX5_fault cX5_fault 1 (some .int) :: ([.fieldLink RX5 46 "WishPins" "latestFault" "I"] ++ wsX50)
def wsX5_many : List Cond := .code yX5_many cX5_many 2 (some .int) :: ([.fieldLink RX5 12 "WishPins" "lying" "LWishPins$Well;", .fieldLink RX5 79 "WishPins$Well" "pins" "I", .fieldLink RX5 115 "WishPins$Well" "slope" "I", .fieldLink RX5 118 "WishPins$Well" "drift" "I", .fieldLink RX5 101 "WishPins$Well" "now" "I", .fieldLink RX5 21 "WishPins" "readings" "LWishPins$Readings;", .fieldLink RX5 169 "WishPins$Readings" "count" "I"] ++ wsX50 ++ wsX40 ++ wsX20)
def wsX6_init : List Cond := .code yX6_init cX6_init 2 none :: ([.methodLink RX6 1 objectInit, .instanceMethod objectInit, .code objectInit ⟨#[0xb1]⟩ 1 none, .arrayClass .int, .fieldLink RX6 7 "WishPinsModel" "kindOf" "[I", .fieldLink RX6 13 "WishPinsModel" "bendOf" "[I", .fieldLink RX6 16 "WishPinsModel" "yearOf" "[I", .fieldLink RX6 19 "WishPinsModel" "readKind" "[I", .fieldLink RX6 22 "WishPinsModel" "readBend" "[I", .fieldLink RX6 25 "WishPinsModel" "readThrown" "[I", .fieldLink RX6 28 "WishPinsModel" "kindKept" "[I", .fieldLink RX6 31 "WishPinsModel" "bendKept" "[I", .fieldLink RX6 34 "WishPinsModel" "thrownKept" "[I", .fieldLink RX6 37 "WishPinsModel" "waysOn" "[I", .fieldLink RX6 40 "WishPinsModel" "readingOf" "[I", .fieldLink RX6 43 "WishPinsModel" "readingWas" "[I", .fieldLink RX6 46 "WishPinsModel" "sheetSize" "[I", .fieldLink RX6 49 "WishPinsModel" "sheetLane" "[I", .fieldLink RX6 52 "WishPinsModel" "sheet" "[I", .fieldLink RX6 55 "WishPinsModel" "hands" "[I"] ++ wsX60)
def wsX6_in : List Cond := .code yX6_in cX6_in 6 (some .boolean) :: ([])
def wsX6_lost : List Cond := .code yX6_lost cX6_lost 0 (some .long) :: ([.constantLong RX6 58 (-9223372036854775808)])
def wsX6_isIn : List Cond := .code yX6_isIn cX6_isIn 2 (some .boolean) :: ([])
def wsX6_bits : List Cond := .code yX6_bits cX6_bits 3 (some .int) :: ([])
def wsX6_share : List Cond := .code yX6_share cX6_share 11 (some .long) :: ([])
def wsX6_refused : List Cond := .code yX6_refused cX6_refused 2 (some .int) :: ([.fieldLink RX6 60 "WishPinsModel" "fault" "I"] ++ wsX60)
def wsX6_failed : List Cond := .code yX6_failed cX6_failed 2 (some .int) :: ([.fieldLink RX6 60 "WishPinsModel" "fault" "I"] ++ wsX60)
def wsX6_failedLong : List Cond := .code yX6_failedLong cX6_failedLong 2 (some .long) :: ([.fieldLink RX6 60 "WishPinsModel" "fault" "I", .methodLink RX6 64 yX6_lost, .static yX6_lost, .initialized RX6, .code yX6_lost cX6_lost 0 (some .long), .constantLong RX6 58 (-9223372036854775808)] ++ wsX60)
def wsX6_noPin : List Cond := .code yX6_noPin cX6_noPin 2 (some .boolean) :: ([.fieldLink RX6 68 "WishPinsModel" "pins" "I", .methodLink RX6 71 yX6_in, .static yX6_in, .initialized RX6, .code yX6_in cX6_in 6 (some .boolean)] ++ wsX60)
def wsX6_codeAt : List Cond := .code yX6_codeAt cX6_codeAt 3 (some .int) :: ([.fieldLink RX6 75 "WishPinsModel" "readAt" "I", .fieldLink RX6 52 "WishPinsModel" "sheet" "[I"] ++ wsX60)
def wsX6_figure : List Cond := .code yX6_figure cX6_figure 8 (some .int) :: ([.fieldLink RX6 75 "WishPinsModel" "readAt" "I", .methodLink RX6 78 yX6_codeAt, .instanceMethod yX6_codeAt, .selects RX6 yX6_codeAt yX6_codeAt, .initialized RX6, .code yX6_codeAt cX6_codeAt 3 (some .int), .fieldLink RX6 52 "WishPinsModel" "sheet" "[I", .methodLink RX6 71 yX6_in, .static yX6_in, .code yX6_in cX6_in 6 (some .boolean)] ++ wsX60)
def wsX6_readsPin : List Cond := .code yX6_readsPin cX6_readsPin 6 (some .boolean) :: ([.fieldLink RX6 82 "WishPinsModel" "readPins" "I", .fieldLink RX6 75 "WishPinsModel" "readAt" "I", .fieldLink RX6 89 "WishPinsModel" "readYear" "I", .fieldLink RX6 19 "WishPinsModel" "readKind" "[I", .fieldLink RX6 22 "WishPinsModel" "readBend" "[I", .fieldLink RX6 25 "WishPinsModel" "readThrown" "[I", .methodLink RX6 78 yX6_codeAt, .instanceMethod yX6_codeAt, .selects RX6 yX6_codeAt yX6_codeAt, .initialized RX6, .code yX6_codeAt cX6_codeAt 3 (some .int), .fieldLink RX6 52 "WishPinsModel" "sheet" "[I", .methodLink RX6 85 yX6_figure, .instanceMethod yX6_figure, .selects RX6 yX6_figure yX6_figure, .code yX6_figure cX6_figure 8 (some .int), .methodLink RX6 71 yX6_in, .static yX6_in, .code yX6_in cX6_in 6 (some .boolean)] ++ wsX60)
def wsX6_readsWell_r1 : List Cond := [Cond.fieldLink RX6 75 "WishPinsModel" "readAt" "I", Cond.fieldLink RX6 82 "WishPinsModel" "readPins" "I", Cond.fieldLink RX6 89 "WishPinsModel" "readYear" "I", Cond.fieldLink RX6 92 "WishPinsModel" "readSlope" "I", Cond.fieldLink RX6 95 "WishPinsModel" "readDrift" "I", Cond.methodLink RX6 78 yX6_codeAt, Cond.instanceMethod yX6_codeAt, Cond.selects RX6 yX6_codeAt yX6_codeAt, Cond.initialized RX6, Cond.code yX6_codeAt cX6_codeAt 3 (some .int), Cond.fieldLink RX6 52 "WishPinsModel" "sheet" "[I", Cond.methodLink RX6 85 yX6_figure, Cond.instanceMethod yX6_figure, Cond.selects RX6 yX6_figure yX6_figure, Cond.code yX6_figure cX6_figure 8 (some .int), Cond.methodLink RX6 71 yX6_in, Cond.static yX6_in, Cond.code yX6_in cX6_in 6 (some .boolean), Cond.methodLink RX6 98 yX6_readsPin, Cond.instanceMethod yX6_readsPin, Cond.selects RX6 yX6_readsPin yX6_readsPin, Cond.code yX6_readsPin cX6_readsPin 6 (some .boolean), Cond.fieldLink RX6 19 "WishPinsModel" "readKind" "[I", Cond.fieldLink RX6 22 "WishPinsModel" "readBend" "[I"]
def wsX6_readsWell_r2 : List Cond := [Cond.fieldLink RX6 25 "WishPinsModel" "readThrown" "[I"]
def wsX6_readsWell : List Cond := .code yX6_readsWell cX6_readsWell 4 (some .boolean) :: ((wsX6_readsWell_r1 ++ wsX6_readsWell_r2) ++ wsX60)
def wsX6_isBeyond : List Cond := .code yX6_isBeyond cX6_isBeyond 4 (some .boolean) :: ([])
def wsX6_cellsBarred : List Cond := .code yX6_cellsBarred cX6_cellsBarred 6 (some .int) :: ([.fieldLink RX6 46 "WishPinsModel" "sheetSize" "[I", .fieldLink RX6 49 "WishPinsModel" "sheetLane" "[I", .methodLink RX6 102 yX6_failed, .instanceMethod yX6_failed, .selects RX6 yX6_failed yX6_failed, .initialized RX6, .code yX6_failed cX6_failed 2 (some .int), .fieldLink RX6 60 "WishPinsModel" "fault" "I", .methodLink RX6 106 yX6_isBeyond, .static yX6_isBeyond, .code yX6_isBeyond cX6_isBeyond 4 (some .boolean)] ++ wsX60)
def wsX6_noSheet : List Cond := .code yX6_noSheet cX6_noSheet 1 (some .boolean) :: ([.constantLong RX6 220 (3), .methodLink RX6 71 yX6_in, .static yX6_in, .initialized RX6, .code yX6_in cX6_in 6 (some .boolean)])
def wsX6_well_r1 : List Cond := [Cond.constantLong RX6 117 (2), Cond.fieldLink RX6 75 "WishPinsModel" "readAt" "I", Cond.fieldLink RX6 82 "WishPinsModel" "readPins" "I", Cond.fieldLink RX6 68 "WishPinsModel" "pins" "I", Cond.fieldLink RX6 92 "WishPinsModel" "readSlope" "I", Cond.fieldLink RX6 126 "WishPinsModel" "slopeNow" "I", Cond.fieldLink RX6 95 "WishPinsModel" "readDrift" "I", Cond.fieldLink RX6 129 "WishPinsModel" "driftNow" "I", Cond.fieldLink RX6 89 "WishPinsModel" "readYear" "I", Cond.fieldLink RX6 132 "WishPinsModel" "yearNow" "I", Cond.fieldLink RX6 7 "WishPinsModel" "kindOf" "[I", Cond.fieldLink RX6 19 "WishPinsModel" "readKind" "[I", Cond.fieldLink RX6 13 "WishPinsModel" "bendOf" "[I", Cond.fieldLink RX6 22 "WishPinsModel" "readBend" "[I", Cond.fieldLink RX6 16 "WishPinsModel" "yearOf" "[I", Cond.fieldLink RX6 25 "WishPinsModel" "readThrown" "[I", Cond.fieldLink RX6 135 "WishPinsModel" "readings" "I", Cond.methodLink RX6 110 yX6_noSheet, Cond.static yX6_noSheet, Cond.initialized RX6, Cond.code yX6_noSheet cX6_noSheet 1 (some .boolean), Cond.constantLong RX6 220 (3), Cond.methodLink RX6 71 yX6_in, Cond.static yX6_in]
def wsX6_well_r2 : List Cond := [Cond.code yX6_in cX6_in 6 (some .boolean), Cond.methodLink RX6 114 yX6_refused, Cond.instanceMethod yX6_refused, Cond.selects RX6 yX6_refused yX6_refused, Cond.code yX6_refused cX6_refused 2 (some .int), Cond.fieldLink RX6 60 "WishPinsModel" "fault" "I", Cond.methodLink RX6 119 yX6_cellsBarred, Cond.instanceMethod yX6_cellsBarred, Cond.selects RX6 yX6_cellsBarred yX6_cellsBarred, Cond.code yX6_cellsBarred cX6_cellsBarred 6 (some .int), Cond.fieldLink RX6 46 "WishPinsModel" "sheetSize" "[I", Cond.fieldLink RX6 49 "WishPinsModel" "sheetLane" "[I", Cond.methodLink RX6 102 yX6_failed, Cond.instanceMethod yX6_failed, Cond.selects RX6 yX6_failed yX6_failed, Cond.code yX6_failed cX6_failed 2 (some .int), Cond.methodLink RX6 106 yX6_isBeyond, Cond.static yX6_isBeyond, Cond.code yX6_isBeyond cX6_isBeyond 4 (some .boolean), Cond.methodLink RX6 123 yX6_readsWell, Cond.instanceMethod yX6_readsWell, Cond.selects RX6 yX6_readsWell yX6_readsWell, Cond.code yX6_readsWell cX6_readsWell 4 (some .boolean), Cond.methodLink RX6 78 yX6_codeAt]
def wsX6_well_r3 : List Cond := [Cond.instanceMethod yX6_codeAt, Cond.selects RX6 yX6_codeAt yX6_codeAt, Cond.code yX6_codeAt cX6_codeAt 3 (some .int), Cond.fieldLink RX6 52 "WishPinsModel" "sheet" "[I", Cond.methodLink RX6 85 yX6_figure, Cond.instanceMethod yX6_figure, Cond.selects RX6 yX6_figure yX6_figure, Cond.code yX6_figure cX6_figure 8 (some .int), Cond.methodLink RX6 98 yX6_readsPin, Cond.instanceMethod yX6_readsPin, Cond.selects RX6 yX6_readsPin yX6_readsPin, Cond.code yX6_readsPin cX6_readsPin 6 (some .boolean)]
def wsX6_well : List Cond := .code yX6_well cX6_well 7 (some .int) :: ((wsX6_well_r1 ++ (wsX6_well_r2 ++ wsX6_well_r3)) ++ wsX60)
def wsX6_turnBy : List Cond := .code yX6_turnBy cX6_turnBy 2 (some .int) :: ([])
def wsX6_turnOf : List Cond := .code yX6_turnOf cX6_turnOf 2 (some .int) :: ([.fieldLink RX6 7 "WishPinsModel" "kindOf" "[I", .fieldLink RX6 13 "WishPinsModel" "bendOf" "[I", .methodLink RX6 138 yX6_turnBy, .static yX6_turnBy, .initialized RX6, .code yX6_turnBy cX6_turnBy 2 (some .int)] ++ wsX60)
def wsX6_wishBy : List Cond := .code yX6_wishBy cX6_wishBy 3 (some .int) :: ([.fieldLink RX6 126 "WishPinsModel" "slopeNow" "I", .fieldLink RX6 129 "WishPinsModel" "driftNow" "I"] ++ wsX60)
def wsX6_wishOf : List Cond := .code yX6_wishOf cX6_wishOf 2 (some .int) :: ([.fieldLink RX6 16 "WishPinsModel" "yearOf" "[I", .methodLink RX6 141 yX6_turnOf, .instanceMethod yX6_turnOf, .selects RX6 yX6_turnOf yX6_turnOf, .initialized RX6, .code yX6_turnOf cX6_turnOf 2 (some .int), .fieldLink RX6 7 "WishPinsModel" "kindOf" "[I", .fieldLink RX6 13 "WishPinsModel" "bendOf" "[I", .methodLink RX6 138 yX6_turnBy, .static yX6_turnBy, .code yX6_turnBy cX6_turnBy 2 (some .int), .methodLink RX6 144 yX6_wishBy, .instanceMethod yX6_wishBy, .selects RX6 yX6_wishBy yX6_wishBy, .code yX6_wishBy cX6_wishBy 3 (some .int), .fieldLink RX6 126 "WishPinsModel" "slopeNow" "I", .fieldLink RX6 129 "WishPinsModel" "driftNow" "I"] ++ wsX60)
def wsX6_ofPin_r1 : List Cond := [Cond.fieldLink RX6 7 "WishPinsModel" "kindOf" "[I", Cond.fieldLink RX6 13 "WishPinsModel" "bendOf" "[I", Cond.fieldLink RX6 16 "WishPinsModel" "yearOf" "[I", Cond.fieldLink RX6 132 "WishPinsModel" "yearNow" "I", Cond.methodLink RX6 147 yX6_noPin, Cond.instanceMethod yX6_noPin, Cond.selects RX6 yX6_noPin yX6_noPin, Cond.initialized RX6, Cond.code yX6_noPin cX6_noPin 2 (some .boolean), Cond.fieldLink RX6 68 "WishPinsModel" "pins" "I", Cond.methodLink RX6 71 yX6_in, Cond.static yX6_in, Cond.code yX6_in cX6_in 6 (some .boolean), Cond.methodLink RX6 141 yX6_turnOf, Cond.instanceMethod yX6_turnOf, Cond.selects RX6 yX6_turnOf yX6_turnOf, Cond.code yX6_turnOf cX6_turnOf 2 (some .int), Cond.methodLink RX6 138 yX6_turnBy, Cond.static yX6_turnBy, Cond.code yX6_turnBy cX6_turnBy 2 (some .int), Cond.methodLink RX6 150 yX6_wishOf, Cond.instanceMethod yX6_wishOf, Cond.selects RX6 yX6_wishOf yX6_wishOf, Cond.code yX6_wishOf cX6_wishOf 2 (some .int)]
def wsX6_ofPin_r2 : List Cond := [Cond.methodLink RX6 144 yX6_wishBy, Cond.instanceMethod yX6_wishBy, Cond.selects RX6 yX6_wishBy yX6_wishBy, Cond.code yX6_wishBy cX6_wishBy 3 (some .int), Cond.fieldLink RX6 126 "WishPinsModel" "slopeNow" "I", Cond.fieldLink RX6 129 "WishPinsModel" "driftNow" "I"]
def wsX6_ofPin : List Cond := .code yX6_ofPin cX6_ofPin 3 (some .int) :: ((wsX6_ofPin_r1 ++ wsX6_ofPin_r2) ++ wsX60)
def wsX6_bend : List Cond := .code yX6_bend cX6_bend 4 (some .int) :: ([.constantLong RX6 153 (9), .fieldLink RX6 13 "WishPinsModel" "bendOf" "[I", .methodLink RX6 147 yX6_noPin, .instanceMethod yX6_noPin, .selects RX6 yX6_noPin yX6_noPin, .initialized RX6, .code yX6_noPin cX6_noPin 2 (some .boolean), .fieldLink RX6 68 "WishPinsModel" "pins" "I", .methodLink RX6 71 yX6_in, .static yX6_in, .code yX6_in cX6_in 6 (some .boolean)] ++ wsX60)
def wsX6_rekey : List Cond := .code yX6_rekey cX6_rekey 4 (some .int) :: ([.fieldLink RX6 68 "WishPinsModel" "pins" "I", .constantLong RX6 155 (5), .fieldLink RX6 126 "WishPinsModel" "slopeNow" "I", .fieldLink RX6 129 "WishPinsModel" "driftNow" "I", .methodLink RX6 71 yX6_in, .static yX6_in, .initialized RX6, .code yX6_in cX6_in 6 (some .boolean)] ++ wsX60)
def wsX6_wished_r1 : List Cond := [Cond.fieldLink RX6 68 "WishPinsModel" "pins" "I", Cond.constantLong RX6 155 (5), Cond.methodLink RX6 71 yX6_in, Cond.static yX6_in, Cond.initialized RX6, Cond.code yX6_in cX6_in 6 (some .boolean), Cond.methodLink RX6 150 yX6_wishOf, Cond.instanceMethod yX6_wishOf, Cond.selects RX6 yX6_wishOf yX6_wishOf, Cond.code yX6_wishOf cX6_wishOf 2 (some .int), Cond.fieldLink RX6 16 "WishPinsModel" "yearOf" "[I", Cond.methodLink RX6 141 yX6_turnOf, Cond.instanceMethod yX6_turnOf, Cond.selects RX6 yX6_turnOf yX6_turnOf, Cond.code yX6_turnOf cX6_turnOf 2 (some .int), Cond.fieldLink RX6 7 "WishPinsModel" "kindOf" "[I", Cond.fieldLink RX6 13 "WishPinsModel" "bendOf" "[I", Cond.methodLink RX6 138 yX6_turnBy, Cond.static yX6_turnBy, Cond.code yX6_turnBy cX6_turnBy 2 (some .int), Cond.methodLink RX6 144 yX6_wishBy, Cond.instanceMethod yX6_wishBy, Cond.selects RX6 yX6_wishBy yX6_wishBy, Cond.code yX6_wishBy cX6_wishBy 3 (some .int)]
def wsX6_wished_r2 : List Cond := [Cond.fieldLink RX6 126 "WishPinsModel" "slopeNow" "I", Cond.fieldLink RX6 129 "WishPinsModel" "driftNow" "I"]
def wsX6_wished : List Cond := .code yX6_wished cX6_wished 4 (some .int) :: ((wsX6_wished_r1 ++ wsX6_wished_r2) ++ wsX60)
def wsX6_threw : List Cond := .code yX6_threw cX6_threw 3 (some .boolean) :: ([.fieldLink RX6 68 "WishPinsModel" "pins" "I", .fieldLink RX6 7 "WishPinsModel" "kindOf" "[I", .fieldLink RX6 13 "WishPinsModel" "bendOf" "[I", .fieldLink RX6 16 "WishPinsModel" "yearOf" "[I", .fieldLink RX6 132 "WishPinsModel" "yearNow" "I"] ++ wsX60)
def wsX6_throwIn_r1 : List Cond := [Cond.constantLong RX6 117 (2), Cond.constantLong RX6 153 (9), Cond.fieldLink RX6 68 "WishPinsModel" "pins" "I", Cond.methodLink RX6 71 yX6_in, Cond.static yX6_in, Cond.initialized RX6, Cond.code yX6_in cX6_in 6 (some .boolean), Cond.methodLink RX6 157 yX6_threw, Cond.instanceMethod yX6_threw, Cond.selects RX6 yX6_threw yX6_threw, Cond.code yX6_threw cX6_threw 3 (some .boolean), Cond.fieldLink RX6 7 "WishPinsModel" "kindOf" "[I", Cond.fieldLink RX6 13 "WishPinsModel" "bendOf" "[I", Cond.fieldLink RX6 16 "WishPinsModel" "yearOf" "[I", Cond.fieldLink RX6 132 "WishPinsModel" "yearNow" "I", Cond.methodLink RX6 150 yX6_wishOf, Cond.instanceMethod yX6_wishOf, Cond.selects RX6 yX6_wishOf yX6_wishOf, Cond.code yX6_wishOf cX6_wishOf 2 (some .int), Cond.methodLink RX6 141 yX6_turnOf, Cond.instanceMethod yX6_turnOf, Cond.selects RX6 yX6_turnOf yX6_turnOf, Cond.code yX6_turnOf cX6_turnOf 2 (some .int), Cond.methodLink RX6 138 yX6_turnBy]
def wsX6_throwIn_r2 : List Cond := [Cond.static yX6_turnBy, Cond.code yX6_turnBy cX6_turnBy 2 (some .int), Cond.methodLink RX6 144 yX6_wishBy, Cond.instanceMethod yX6_wishBy, Cond.selects RX6 yX6_wishBy yX6_wishBy, Cond.code yX6_wishBy cX6_wishBy 3 (some .int), Cond.fieldLink RX6 126 "WishPinsModel" "slopeNow" "I", Cond.fieldLink RX6 129 "WishPinsModel" "driftNow" "I"]
def wsX6_throwIn : List Cond := .code yX6_throwIn cX6_throwIn 3 (some .int) :: ((wsX6_throwIn_r1 ++ wsX6_throwIn_r2) ++ wsX60)
def wsX6_fish : List Cond := .code yX6_fish cX6_fish 1 (some .int) :: ([.fieldLink RX6 68 "WishPinsModel" "pins" "I", .fieldLink RX6 135 "WishPinsModel" "readings" "I", .methodLink RX6 150 yX6_wishOf, .instanceMethod yX6_wishOf, .selects RX6 yX6_wishOf yX6_wishOf, .initialized RX6, .code yX6_wishOf cX6_wishOf 2 (some .int), .fieldLink RX6 16 "WishPinsModel" "yearOf" "[I", .methodLink RX6 141 yX6_turnOf, .instanceMethod yX6_turnOf, .selects RX6 yX6_turnOf yX6_turnOf, .code yX6_turnOf cX6_turnOf 2 (some .int), .fieldLink RX6 7 "WishPinsModel" "kindOf" "[I", .fieldLink RX6 13 "WishPinsModel" "bendOf" "[I", .methodLink RX6 138 yX6_turnBy, .static yX6_turnBy, .code yX6_turnBy cX6_turnBy 2 (some .int), .methodLink RX6 144 yX6_wishBy, .instanceMethod yX6_wishBy, .selects RX6 yX6_wishBy yX6_wishBy, .code yX6_wishBy cX6_wishBy 3 (some .int), .fieldLink RX6 126 "WishPinsModel" "slopeNow" "I", .fieldLink RX6 129 "WishPinsModel" "driftNow" "I"] ++ wsX60)
def wsX6_years : List Cond := .code yX6_years cX6_years 2 (some .int) :: ([.constantLong RX6 160 (99), .fieldLink RX6 68 "WishPinsModel" "pins" "I", .fieldLink RX6 132 "WishPinsModel" "yearNow" "I", .methodLink RX6 71 yX6_in, .static yX6_in, .initialized RX6, .code yX6_in cX6_in 6 (some .boolean)] ++ wsX60)
def wsX6_keepAll : List Cond := .code yX6_keepAll cX6_keepAll 2 none :: ([.fieldLink RX6 68 "WishPinsModel" "pins" "I", .fieldLink RX6 162 "WishPinsModel" "pinsKept" "I", .fieldLink RX6 132 "WishPinsModel" "yearNow" "I", .fieldLink RX6 165 "WishPinsModel" "yearKept" "I", .fieldLink RX6 28 "WishPinsModel" "kindKept" "[I", .fieldLink RX6 7 "WishPinsModel" "kindOf" "[I", .fieldLink RX6 31 "WishPinsModel" "bendKept" "[I", .fieldLink RX6 13 "WishPinsModel" "bendOf" "[I", .fieldLink RX6 34 "WishPinsModel" "thrownKept" "[I", .fieldLink RX6 16 "WishPinsModel" "yearOf" "[I"] ++ wsX60)
def wsX6_bringBack : List Cond := .code yX6_bringBack cX6_bringBack 2 none :: ([.fieldLink RX6 162 "WishPinsModel" "pinsKept" "I", .fieldLink RX6 68 "WishPinsModel" "pins" "I", .fieldLink RX6 165 "WishPinsModel" "yearKept" "I", .fieldLink RX6 132 "WishPinsModel" "yearNow" "I", .fieldLink RX6 7 "WishPinsModel" "kindOf" "[I", .fieldLink RX6 28 "WishPinsModel" "kindKept" "[I", .fieldLink RX6 13 "WishPinsModel" "bendOf" "[I", .fieldLink RX6 31 "WishPinsModel" "bendKept" "[I", .fieldLink RX6 16 "WishPinsModel" "yearOf" "[I", .fieldLink RX6 34 "WishPinsModel" "thrownKept" "[I"] ++ wsX60)
def wsX6_isPair : List Cond := .code yX6_isPair cX6_isPair 2 (some .boolean) :: ([.constantLong RX6 168 (4), .constantLong RX6 153 (9), .constantLong RX6 160 (99), .methodLink RX6 71 yX6_in, .static yX6_in, .initialized RX6, .code yX6_in cX6_in 6 (some .boolean)])
def wsX6_centuryBy_r1 : List Cond := [Cond.fieldLink RX6 52 "WishPinsModel" "sheet" "[I", Cond.fieldLink RX6 68 "WishPinsModel" "pins" "I", Cond.fieldLink RX6 132 "WishPinsModel" "yearNow" "I", Cond.methodLink RX6 157 yX6_threw, Cond.instanceMethod yX6_threw, Cond.selects RX6 yX6_threw yX6_threw, Cond.initialized RX6, Cond.code yX6_threw cX6_threw 3 (some .boolean), Cond.fieldLink RX6 7 "WishPinsModel" "kindOf" "[I", Cond.fieldLink RX6 13 "WishPinsModel" "bendOf" "[I", Cond.fieldLink RX6 16 "WishPinsModel" "yearOf" "[I", Cond.methodLink RX6 150 yX6_wishOf, Cond.instanceMethod yX6_wishOf, Cond.selects RX6 yX6_wishOf yX6_wishOf, Cond.code yX6_wishOf cX6_wishOf 2 (some .int), Cond.methodLink RX6 141 yX6_turnOf, Cond.instanceMethod yX6_turnOf, Cond.selects RX6 yX6_turnOf yX6_turnOf, Cond.code yX6_turnOf cX6_turnOf 2 (some .int), Cond.methodLink RX6 138 yX6_turnBy, Cond.static yX6_turnBy, Cond.code yX6_turnBy cX6_turnBy 2 (some .int), Cond.methodLink RX6 144 yX6_wishBy, Cond.instanceMethod yX6_wishBy]
def wsX6_centuryBy_r2 : List Cond := [Cond.selects RX6 yX6_wishBy yX6_wishBy, Cond.code yX6_wishBy cX6_wishBy 3 (some .int), Cond.fieldLink RX6 126 "WishPinsModel" "slopeNow" "I", Cond.fieldLink RX6 129 "WishPinsModel" "driftNow" "I", Cond.methodLink RX6 147 yX6_noPin, Cond.instanceMethod yX6_noPin, Cond.selects RX6 yX6_noPin yX6_noPin, Cond.code yX6_noPin cX6_noPin 2 (some .boolean), Cond.methodLink RX6 71 yX6_in, Cond.static yX6_in, Cond.code yX6_in cX6_in 6 (some .boolean)]
def wsX6_centuryBy : List Cond := .code yX6_centuryBy cX6_centuryBy 10 (some .int) :: ((wsX6_centuryBy_r1 ++ wsX6_centuryBy_r2) ++ wsX60)
def wsX6_century_r1 : List Cond := [Cond.constantLong RX6 117 (2), Cond.constantLong RX6 170 (20), Cond.constantLong RX6 168 (4), Cond.constantLong RX6 172 (10), Cond.constantLong RX6 174 (18), Cond.fieldLink RX6 68 "WishPinsModel" "pins" "I", Cond.fieldLink RX6 52 "WishPinsModel" "sheet" "[I", Cond.methodLink RX6 110 yX6_noSheet, Cond.static yX6_noSheet, Cond.initialized RX6, Cond.code yX6_noSheet cX6_noSheet 1 (some .boolean), Cond.constantLong RX6 220 (3), Cond.methodLink RX6 71 yX6_in, Cond.static yX6_in, Cond.code yX6_in cX6_in 6 (some .boolean), Cond.methodLink RX6 114 yX6_refused, Cond.instanceMethod yX6_refused, Cond.selects RX6 yX6_refused yX6_refused, Cond.code yX6_refused cX6_refused 2 (some .int), Cond.fieldLink RX6 60 "WishPinsModel" "fault" "I", Cond.methodLink RX6 119 yX6_cellsBarred, Cond.instanceMethod yX6_cellsBarred, Cond.selects RX6 yX6_cellsBarred yX6_cellsBarred, Cond.code yX6_cellsBarred cX6_cellsBarred 6 (some .int)]
def wsX6_century_r2 : List Cond := [Cond.fieldLink RX6 46 "WishPinsModel" "sheetSize" "[I", Cond.fieldLink RX6 49 "WishPinsModel" "sheetLane" "[I", Cond.methodLink RX6 102 yX6_failed, Cond.instanceMethod yX6_failed, Cond.selects RX6 yX6_failed yX6_failed, Cond.code yX6_failed cX6_failed 2 (some .int), Cond.methodLink RX6 106 yX6_isBeyond, Cond.static yX6_isBeyond, Cond.code yX6_isBeyond cX6_isBeyond 4 (some .boolean), Cond.methodLink RX6 176 yX6_isPair, Cond.static yX6_isPair, Cond.code yX6_isPair cX6_isPair 2 (some .boolean), Cond.constantLong RX6 153 (9), Cond.constantLong RX6 160 (99), Cond.methodLink RX6 179 yX6_keepAll, Cond.instanceMethod yX6_keepAll, Cond.selects RX6 yX6_keepAll yX6_keepAll, Cond.code yX6_keepAll cX6_keepAll 2 none, Cond.fieldLink RX6 162 "WishPinsModel" "pinsKept" "I", Cond.fieldLink RX6 132 "WishPinsModel" "yearNow" "I", Cond.fieldLink RX6 165 "WishPinsModel" "yearKept" "I", Cond.fieldLink RX6 28 "WishPinsModel" "kindKept" "[I", Cond.fieldLink RX6 7 "WishPinsModel" "kindOf" "[I", Cond.fieldLink RX6 31 "WishPinsModel" "bendKept" "[I"]
def wsX6_century_r3 : List Cond := [Cond.fieldLink RX6 13 "WishPinsModel" "bendOf" "[I", Cond.fieldLink RX6 34 "WishPinsModel" "thrownKept" "[I", Cond.fieldLink RX6 16 "WishPinsModel" "yearOf" "[I", Cond.methodLink RX6 182 yX6_centuryBy, Cond.instanceMethod yX6_centuryBy, Cond.selects RX6 yX6_centuryBy yX6_centuryBy, Cond.code yX6_centuryBy cX6_centuryBy 10 (some .int), Cond.methodLink RX6 157 yX6_threw, Cond.instanceMethod yX6_threw, Cond.selects RX6 yX6_threw yX6_threw, Cond.code yX6_threw cX6_threw 3 (some .boolean), Cond.methodLink RX6 150 yX6_wishOf, Cond.instanceMethod yX6_wishOf, Cond.selects RX6 yX6_wishOf yX6_wishOf, Cond.code yX6_wishOf cX6_wishOf 2 (some .int), Cond.methodLink RX6 141 yX6_turnOf, Cond.instanceMethod yX6_turnOf, Cond.selects RX6 yX6_turnOf yX6_turnOf, Cond.code yX6_turnOf cX6_turnOf 2 (some .int), Cond.methodLink RX6 138 yX6_turnBy, Cond.static yX6_turnBy, Cond.code yX6_turnBy cX6_turnBy 2 (some .int), Cond.methodLink RX6 144 yX6_wishBy, Cond.instanceMethod yX6_wishBy]
def wsX6_century_r4 : List Cond := [Cond.selects RX6 yX6_wishBy yX6_wishBy, Cond.code yX6_wishBy cX6_wishBy 3 (some .int), Cond.fieldLink RX6 126 "WishPinsModel" "slopeNow" "I", Cond.fieldLink RX6 129 "WishPinsModel" "driftNow" "I", Cond.methodLink RX6 147 yX6_noPin, Cond.instanceMethod yX6_noPin, Cond.selects RX6 yX6_noPin yX6_noPin, Cond.code yX6_noPin cX6_noPin 2 (some .boolean), Cond.methodLink RX6 186 yX6_bringBack, Cond.instanceMethod yX6_bringBack, Cond.selects RX6 yX6_bringBack yX6_bringBack, Cond.code yX6_bringBack cX6_bringBack 2 none]
def wsX6_century : List Cond := .code yX6_century cX6_century 8 (some .int) :: ((wsX6_century_r1 ++ (wsX6_century_r2 ++ (wsX6_century_r3 ++ wsX6_century_r4))) ++ wsX60)
def wsX6_quiet : List Cond := .code yX6_quiet cX6_quiet 7 (some .int) :: ([.fieldLink RX6 68 "WishPinsModel" "pins" "I", .fieldLink RX6 132 "WishPinsModel" "yearNow" "I", .fieldLink RX6 16 "WishPinsModel" "yearOf" "[I", .methodLink RX6 71 yX6_in, .static yX6_in, .initialized RX6, .code yX6_in cX6_in 6 (some .boolean)] ++ wsX60)
def wsX6_run_r1 : List Cond := [Cond.fieldLink RX6 68 "WishPinsModel" "pins" "I", Cond.methodLink RX6 71 yX6_in, Cond.static yX6_in, Cond.initialized RX6, Cond.code yX6_in cX6_in 6 (some .boolean), Cond.methodLink RX6 150 yX6_wishOf, Cond.instanceMethod yX6_wishOf, Cond.selects RX6 yX6_wishOf yX6_wishOf, Cond.code yX6_wishOf cX6_wishOf 2 (some .int), Cond.fieldLink RX6 16 "WishPinsModel" "yearOf" "[I", Cond.methodLink RX6 141 yX6_turnOf, Cond.instanceMethod yX6_turnOf, Cond.selects RX6 yX6_turnOf yX6_turnOf, Cond.code yX6_turnOf cX6_turnOf 2 (some .int), Cond.fieldLink RX6 7 "WishPinsModel" "kindOf" "[I", Cond.fieldLink RX6 13 "WishPinsModel" "bendOf" "[I", Cond.methodLink RX6 138 yX6_turnBy, Cond.static yX6_turnBy, Cond.code yX6_turnBy cX6_turnBy 2 (some .int), Cond.methodLink RX6 144 yX6_wishBy, Cond.instanceMethod yX6_wishBy, Cond.selects RX6 yX6_wishBy yX6_wishBy, Cond.code yX6_wishBy cX6_wishBy 3 (some .int), Cond.fieldLink RX6 126 "WishPinsModel" "slopeNow" "I"]
def wsX6_run_r2 : List Cond := [Cond.fieldLink RX6 129 "WishPinsModel" "driftNow" "I"]
def wsX6_run : List Cond := .code yX6_run cX6_run 6 (some .int) :: ((wsX6_run_r1 ++ wsX6_run_r2) ++ wsX60)
def wsX6_shape : List Cond := .code yX6_shape cX6_shape 5 (some .int) :: ([.fieldLink RX6 68 "WishPinsModel" "pins" "I", .constantLong RX6 117 (2), .constantLong RX6 155 (5), .fieldLink RX6 132 "WishPinsModel" "yearNow" "I", .methodLink RX6 71 yX6_in, .static yX6_in, .initialized RX6, .code yX6_in cX6_in 6 (some .boolean), .methodLink RX6 138 yX6_turnBy, .static yX6_turnBy, .code yX6_turnBy cX6_turnBy 2 (some .int), .methodLink RX6 144 yX6_wishBy, .instanceMethod yX6_wishBy, .selects RX6 yX6_wishBy yX6_wishBy, .code yX6_wishBy cX6_wishBy 3 (some .int), .fieldLink RX6 126 "WishPinsModel" "slopeNow" "I", .fieldLink RX6 129 "WishPinsModel" "driftNow" "I"] ++ wsX60)
def wsX6_mayLie : List Cond := .code yX6_mayLie cX6_mayLie 4 (some .boolean) :: ([.fieldLink RX6 16 "WishPinsModel" "yearOf" "[I", .methodLink RX6 141 yX6_turnOf, .instanceMethod yX6_turnOf, .selects RX6 yX6_turnOf yX6_turnOf, .initialized RX6, .code yX6_turnOf cX6_turnOf 2 (some .int), .fieldLink RX6 7 "WishPinsModel" "kindOf" "[I", .fieldLink RX6 13 "WishPinsModel" "bendOf" "[I", .methodLink RX6 138 yX6_turnBy, .static yX6_turnBy, .code yX6_turnBy cX6_turnBy 2 (some .int), .methodLink RX6 144 yX6_wishBy, .instanceMethod yX6_wishBy, .selects RX6 yX6_wishBy yX6_wishBy, .code yX6_wishBy cX6_wishBy 3 (some .int), .fieldLink RX6 126 "WishPinsModel" "slopeNow" "I", .fieldLink RX6 129 "WishPinsModel" "driftNow" "I"] ++ wsX60)
def wsX6_countWays_r1 : List Cond := [Cond.fieldLink RX6 68 "WishPinsModel" "pins" "I", Cond.fieldLink RX6 37 "WishPinsModel" "waysOn" "[I", Cond.fieldLink RX6 52 "WishPinsModel" "sheet" "[I", Cond.methodLink RX6 189 yX6_bits, Cond.static yX6_bits, Cond.initialized RX6, Cond.code yX6_bits cX6_bits 3 (some .int), Cond.methodLink RX6 192 yX6_isIn, Cond.static yX6_isIn, Cond.code yX6_isIn cX6_isIn 2 (some .boolean), Cond.methodLink RX6 195 yX6_mayLie, Cond.instanceMethod yX6_mayLie, Cond.selects RX6 yX6_mayLie yX6_mayLie, Cond.code yX6_mayLie cX6_mayLie 4 (some .boolean), Cond.fieldLink RX6 16 "WishPinsModel" "yearOf" "[I", Cond.methodLink RX6 141 yX6_turnOf, Cond.instanceMethod yX6_turnOf, Cond.selects RX6 yX6_turnOf yX6_turnOf, Cond.code yX6_turnOf cX6_turnOf 2 (some .int), Cond.fieldLink RX6 7 "WishPinsModel" "kindOf" "[I", Cond.fieldLink RX6 13 "WishPinsModel" "bendOf" "[I", Cond.methodLink RX6 138 yX6_turnBy, Cond.static yX6_turnBy, Cond.code yX6_turnBy cX6_turnBy 2 (some .int)]
def wsX6_countWays_r2 : List Cond := [Cond.methodLink RX6 144 yX6_wishBy, Cond.instanceMethod yX6_wishBy, Cond.selects RX6 yX6_wishBy yX6_wishBy, Cond.code yX6_wishBy cX6_wishBy 3 (some .int), Cond.fieldLink RX6 126 "WishPinsModel" "slopeNow" "I", Cond.fieldLink RX6 129 "WishPinsModel" "driftNow" "I"]
def wsX6_countWays : List Cond := .code yX6_countWays cX6_countWays 7 none :: ((wsX6_countWays_r1 ++ wsX6_countWays_r2) ++ wsX60)
def wsX6_firstIn_r1 : List Cond := [Cond.fieldLink RX6 68 "WishPinsModel" "pins" "I", Cond.fieldLink RX6 52 "WishPinsModel" "sheet" "[I", Cond.fieldLink RX6 37 "WishPinsModel" "waysOn" "[I", Cond.methodLink RX6 192 yX6_isIn, Cond.static yX6_isIn, Cond.initialized RX6, Cond.code yX6_isIn cX6_isIn 2 (some .boolean), Cond.methodLink RX6 195 yX6_mayLie, Cond.instanceMethod yX6_mayLie, Cond.selects RX6 yX6_mayLie yX6_mayLie, Cond.code yX6_mayLie cX6_mayLie 4 (some .boolean), Cond.fieldLink RX6 16 "WishPinsModel" "yearOf" "[I", Cond.methodLink RX6 141 yX6_turnOf, Cond.instanceMethod yX6_turnOf, Cond.selects RX6 yX6_turnOf yX6_turnOf, Cond.code yX6_turnOf cX6_turnOf 2 (some .int), Cond.fieldLink RX6 7 "WishPinsModel" "kindOf" "[I", Cond.fieldLink RX6 13 "WishPinsModel" "bendOf" "[I", Cond.methodLink RX6 138 yX6_turnBy, Cond.static yX6_turnBy, Cond.code yX6_turnBy cX6_turnBy 2 (some .int), Cond.methodLink RX6 144 yX6_wishBy, Cond.instanceMethod yX6_wishBy, Cond.selects RX6 yX6_wishBy yX6_wishBy]
def wsX6_firstIn_r2 : List Cond := [Cond.code yX6_wishBy cX6_wishBy 3 (some .int), Cond.fieldLink RX6 126 "WishPinsModel" "slopeNow" "I", Cond.fieldLink RX6 129 "WishPinsModel" "driftNow" "I"]
def wsX6_firstIn : List Cond := .code yX6_firstIn cX6_firstIn 8 (some .int) :: ((wsX6_firstIn_r1 ++ wsX6_firstIn_r2) ++ wsX60)
def wsX6_layers_r1 : List Cond := [Cond.constantLong RX6 117 (2), Cond.constantLong RX6 199 (-1), Cond.constantLong RX6 201 (8), Cond.fieldLink RX6 68 "WishPinsModel" "pins" "I", Cond.fieldLink RX6 52 "WishPinsModel" "sheet" "[I", Cond.constantLong RX6 203 (6), Cond.fieldLink RX6 37 "WishPinsModel" "waysOn" "[I", Cond.methodLink RX6 110 yX6_noSheet, Cond.static yX6_noSheet, Cond.initialized RX6, Cond.code yX6_noSheet cX6_noSheet 1 (some .boolean), Cond.constantLong RX6 220 (3), Cond.methodLink RX6 71 yX6_in, Cond.static yX6_in, Cond.code yX6_in cX6_in 6 (some .boolean), Cond.methodLink RX6 114 yX6_refused, Cond.instanceMethod yX6_refused, Cond.selects RX6 yX6_refused yX6_refused, Cond.code yX6_refused cX6_refused 2 (some .int), Cond.fieldLink RX6 60 "WishPinsModel" "fault" "I", Cond.methodLink RX6 119 yX6_cellsBarred, Cond.instanceMethod yX6_cellsBarred, Cond.selects RX6 yX6_cellsBarred yX6_cellsBarred, Cond.code yX6_cellsBarred cX6_cellsBarred 6 (some .int)]
def wsX6_layers_r2 : List Cond := [Cond.fieldLink RX6 46 "WishPinsModel" "sheetSize" "[I", Cond.fieldLink RX6 49 "WishPinsModel" "sheetLane" "[I", Cond.methodLink RX6 102 yX6_failed, Cond.instanceMethod yX6_failed, Cond.selects RX6 yX6_failed yX6_failed, Cond.code yX6_failed cX6_failed 2 (some .int), Cond.methodLink RX6 106 yX6_isBeyond, Cond.static yX6_isBeyond, Cond.code yX6_isBeyond cX6_isBeyond 4 (some .boolean), Cond.methodLink RX6 205 yX6_countWays, Cond.instanceMethod yX6_countWays, Cond.selects RX6 yX6_countWays yX6_countWays, Cond.code yX6_countWays cX6_countWays 7 none, Cond.methodLink RX6 189 yX6_bits, Cond.static yX6_bits, Cond.code yX6_bits cX6_bits 3 (some .int), Cond.methodLink RX6 192 yX6_isIn, Cond.static yX6_isIn, Cond.code yX6_isIn cX6_isIn 2 (some .boolean), Cond.methodLink RX6 195 yX6_mayLie, Cond.instanceMethod yX6_mayLie, Cond.selects RX6 yX6_mayLie yX6_mayLie, Cond.code yX6_mayLie cX6_mayLie 4 (some .boolean), Cond.fieldLink RX6 16 "WishPinsModel" "yearOf" "[I"]
def wsX6_layers_r3 : List Cond := [Cond.methodLink RX6 141 yX6_turnOf, Cond.instanceMethod yX6_turnOf, Cond.selects RX6 yX6_turnOf yX6_turnOf, Cond.code yX6_turnOf cX6_turnOf 2 (some .int), Cond.fieldLink RX6 7 "WishPinsModel" "kindOf" "[I", Cond.fieldLink RX6 13 "WishPinsModel" "bendOf" "[I", Cond.methodLink RX6 138 yX6_turnBy, Cond.static yX6_turnBy, Cond.code yX6_turnBy cX6_turnBy 2 (some .int), Cond.methodLink RX6 144 yX6_wishBy, Cond.instanceMethod yX6_wishBy, Cond.selects RX6 yX6_wishBy yX6_wishBy, Cond.code yX6_wishBy cX6_wishBy 3 (some .int), Cond.fieldLink RX6 126 "WishPinsModel" "slopeNow" "I", Cond.fieldLink RX6 129 "WishPinsModel" "driftNow" "I", Cond.methodLink RX6 209 yX6_firstIn, Cond.instanceMethod yX6_firstIn, Cond.selects RX6 yX6_firstIn yX6_firstIn, Cond.code yX6_firstIn cX6_firstIn 8 (some .int)]
def wsX6_layers : List Cond := .code yX6_layers cX6_layers 7 (some .int) :: ((wsX6_layers_r1 ++ (wsX6_layers_r2 ++ wsX6_layers_r3)) ++ wsX60)
def wsX6_reading : List Cond := .code yX6_reading cX6_reading 3 (some .int) :: ([.constantLong RX6 155 (5), .fieldLink RX6 135 "WishPinsModel" "readings" "I", .fieldLink RX6 40 "WishPinsModel" "readingOf" "[I", .fieldLink RX6 43 "WishPinsModel" "readingWas" "[I", .methodLink RX6 147 yX6_noPin, .instanceMethod yX6_noPin, .selects RX6 yX6_noPin yX6_noPin, .initialized RX6, .code yX6_noPin cX6_noPin 2 (some .boolean), .fieldLink RX6 68 "WishPinsModel" "pins" "I", .methodLink RX6 71 yX6_in, .static yX6_in, .code yX6_in cX6_in 6 (some .boolean)] ++ wsX60)
def wsX6_back : List Cond := .code yX6_back cX6_back 2 (some .int) :: ([.fieldLink RX6 135 "WishPinsModel" "readings" "I", .methodLink RX6 71 yX6_in, .static yX6_in, .initialized RX6, .code yX6_in cX6_in 6 (some .boolean)] ++ wsX60)
def wsX6_areSo : List Cond := .code yX6_areSo cX6_areSo 3 (some .boolean) :: ([.fieldLink RX6 135 "WishPinsModel" "readings" "I", .fieldLink RX6 40 "WishPinsModel" "readingOf" "[I", .fieldLink RX6 43 "WishPinsModel" "readingWas" "[I", .methodLink RX6 150 yX6_wishOf, .instanceMethod yX6_wishOf, .selects RX6 yX6_wishOf yX6_wishOf, .initialized RX6, .code yX6_wishOf cX6_wishOf 2 (some .int), .fieldLink RX6 16 "WishPinsModel" "yearOf" "[I", .methodLink RX6 141 yX6_turnOf, .instanceMethod yX6_turnOf, .selects RX6 yX6_turnOf yX6_turnOf, .code yX6_turnOf cX6_turnOf 2 (some .int), .fieldLink RX6 7 "WishPinsModel" "kindOf" "[I", .fieldLink RX6 13 "WishPinsModel" "bendOf" "[I", .methodLink RX6 138 yX6_turnBy, .static yX6_turnBy, .code yX6_turnBy cX6_turnBy 2 (some .int), .methodLink RX6 144 yX6_wishBy, .instanceMethod yX6_wishBy, .selects RX6 yX6_wishBy yX6_wishBy, .code yX6_wishBy cX6_wishBy 3 (some .int), .fieldLink RX6 126 "WishPinsModel" "slopeNow" "I", .fieldLink RX6 129 "WishPinsModel" "driftNow" "I"] ++ wsX60)
def wsX6_bends_r1 : List Cond := [Cond.fieldLink RX6 13 "WishPinsModel" "bendOf" "[I", Cond.methodLink RX6 147 yX6_noPin, Cond.instanceMethod yX6_noPin, Cond.selects RX6 yX6_noPin yX6_noPin, Cond.initialized RX6, Cond.code yX6_noPin cX6_noPin 2 (some .boolean), Cond.fieldLink RX6 68 "WishPinsModel" "pins" "I", Cond.methodLink RX6 71 yX6_in, Cond.static yX6_in, Cond.code yX6_in cX6_in 6 (some .boolean), Cond.methodLink RX6 212 yX6_areSo, Cond.instanceMethod yX6_areSo, Cond.selects RX6 yX6_areSo yX6_areSo, Cond.code yX6_areSo cX6_areSo 3 (some .boolean), Cond.fieldLink RX6 135 "WishPinsModel" "readings" "I", Cond.fieldLink RX6 40 "WishPinsModel" "readingOf" "[I", Cond.fieldLink RX6 43 "WishPinsModel" "readingWas" "[I", Cond.methodLink RX6 150 yX6_wishOf, Cond.instanceMethod yX6_wishOf, Cond.selects RX6 yX6_wishOf yX6_wishOf, Cond.code yX6_wishOf cX6_wishOf 2 (some .int), Cond.fieldLink RX6 16 "WishPinsModel" "yearOf" "[I", Cond.methodLink RX6 141 yX6_turnOf, Cond.instanceMethod yX6_turnOf]
def wsX6_bends_r2 : List Cond := [Cond.selects RX6 yX6_turnOf yX6_turnOf, Cond.code yX6_turnOf cX6_turnOf 2 (some .int), Cond.fieldLink RX6 7 "WishPinsModel" "kindOf" "[I", Cond.methodLink RX6 138 yX6_turnBy, Cond.static yX6_turnBy, Cond.code yX6_turnBy cX6_turnBy 2 (some .int), Cond.methodLink RX6 144 yX6_wishBy, Cond.instanceMethod yX6_wishBy, Cond.selects RX6 yX6_wishBy yX6_wishBy, Cond.code yX6_wishBy cX6_wishBy 3 (some .int), Cond.fieldLink RX6 126 "WishPinsModel" "slopeNow" "I", Cond.fieldLink RX6 129 "WishPinsModel" "driftNow" "I"]
def wsX6_bends : List Cond := .code yX6_bends cX6_bends 5 (some .int) :: ((wsX6_bends_r1 ++ wsX6_bends_r2) ++ wsX60)
def wsX6_kinds_r1 : List Cond := [Cond.fieldLink RX6 7 "WishPinsModel" "kindOf" "[I", Cond.methodLink RX6 147 yX6_noPin, Cond.instanceMethod yX6_noPin, Cond.selects RX6 yX6_noPin yX6_noPin, Cond.initialized RX6, Cond.code yX6_noPin cX6_noPin 2 (some .boolean), Cond.fieldLink RX6 68 "WishPinsModel" "pins" "I", Cond.methodLink RX6 71 yX6_in, Cond.static yX6_in, Cond.code yX6_in cX6_in 6 (some .boolean), Cond.methodLink RX6 212 yX6_areSo, Cond.instanceMethod yX6_areSo, Cond.selects RX6 yX6_areSo yX6_areSo, Cond.code yX6_areSo cX6_areSo 3 (some .boolean), Cond.fieldLink RX6 135 "WishPinsModel" "readings" "I", Cond.fieldLink RX6 40 "WishPinsModel" "readingOf" "[I", Cond.fieldLink RX6 43 "WishPinsModel" "readingWas" "[I", Cond.methodLink RX6 150 yX6_wishOf, Cond.instanceMethod yX6_wishOf, Cond.selects RX6 yX6_wishOf yX6_wishOf, Cond.code yX6_wishOf cX6_wishOf 2 (some .int), Cond.fieldLink RX6 16 "WishPinsModel" "yearOf" "[I", Cond.methodLink RX6 141 yX6_turnOf, Cond.instanceMethod yX6_turnOf]
def wsX6_kinds_r2 : List Cond := [Cond.selects RX6 yX6_turnOf yX6_turnOf, Cond.code yX6_turnOf cX6_turnOf 2 (some .int), Cond.fieldLink RX6 13 "WishPinsModel" "bendOf" "[I", Cond.methodLink RX6 138 yX6_turnBy, Cond.static yX6_turnBy, Cond.code yX6_turnBy cX6_turnBy 2 (some .int), Cond.methodLink RX6 144 yX6_wishBy, Cond.instanceMethod yX6_wishBy, Cond.selects RX6 yX6_wishBy yX6_wishBy, Cond.code yX6_wishBy cX6_wishBy 3 (some .int), Cond.fieldLink RX6 126 "WishPinsModel" "slopeNow" "I", Cond.fieldLink RX6 129 "WishPinsModel" "driftNow" "I"]
def wsX6_kinds : List Cond := .code yX6_kinds cX6_kinds 5 (some .int) :: ((wsX6_kinds_r1 ++ wsX6_kinds_r2) ++ wsX60)
def wsX6_keys_r1 : List Cond := [Cond.fieldLink RX6 68 "WishPinsModel" "pins" "I", Cond.constantLong RX6 117 (2), Cond.fieldLink RX6 126 "WishPinsModel" "slopeNow" "I", Cond.fieldLink RX6 129 "WishPinsModel" "driftNow" "I", Cond.methodLink RX6 71 yX6_in, Cond.static yX6_in, Cond.initialized RX6, Cond.code yX6_in cX6_in 6 (some .boolean), Cond.methodLink RX6 212 yX6_areSo, Cond.instanceMethod yX6_areSo, Cond.selects RX6 yX6_areSo yX6_areSo, Cond.code yX6_areSo cX6_areSo 3 (some .boolean), Cond.fieldLink RX6 135 "WishPinsModel" "readings" "I", Cond.fieldLink RX6 40 "WishPinsModel" "readingOf" "[I", Cond.fieldLink RX6 43 "WishPinsModel" "readingWas" "[I", Cond.methodLink RX6 150 yX6_wishOf, Cond.instanceMethod yX6_wishOf, Cond.selects RX6 yX6_wishOf yX6_wishOf, Cond.code yX6_wishOf cX6_wishOf 2 (some .int), Cond.fieldLink RX6 16 "WishPinsModel" "yearOf" "[I", Cond.methodLink RX6 141 yX6_turnOf, Cond.instanceMethod yX6_turnOf, Cond.selects RX6 yX6_turnOf yX6_turnOf, Cond.code yX6_turnOf cX6_turnOf 2 (some .int)]
def wsX6_keys_r2 : List Cond := [Cond.fieldLink RX6 7 "WishPinsModel" "kindOf" "[I", Cond.fieldLink RX6 13 "WishPinsModel" "bendOf" "[I", Cond.methodLink RX6 138 yX6_turnBy, Cond.static yX6_turnBy, Cond.code yX6_turnBy cX6_turnBy 2 (some .int), Cond.methodLink RX6 144 yX6_wishBy, Cond.instanceMethod yX6_wishBy, Cond.selects RX6 yX6_wishBy yX6_wishBy, Cond.code yX6_wishBy cX6_wishBy 3 (some .int)]
def wsX6_keys : List Cond := .code yX6_keys cX6_keys 9 (some .int) :: ((wsX6_keys_r1 ++ wsX6_keys_r2) ++ wsX60)
def wsX6_odds_r1 : List Cond := [Cond.constantLong RX6 117 (2), Cond.constantLong RX6 155 (5), Cond.fieldLink RX6 68 "WishPinsModel" "pins" "I", Cond.fieldLink RX6 132 "WishPinsModel" "yearNow" "I", Cond.constantLong RX6 172 (10), Cond.methodLink RX6 71 yX6_in, Cond.static yX6_in, Cond.initialized RX6, Cond.code yX6_in cX6_in 6 (some .boolean), Cond.methodLink RX6 64 yX6_lost, Cond.static yX6_lost, Cond.code yX6_lost cX6_lost 0 (some .long), Cond.constantLong RX6 58 (-9223372036854775808), Cond.methodLink RX6 138 yX6_turnBy, Cond.static yX6_turnBy, Cond.code yX6_turnBy cX6_turnBy 2 (some .int), Cond.methodLink RX6 144 yX6_wishBy, Cond.instanceMethod yX6_wishBy, Cond.selects RX6 yX6_wishBy yX6_wishBy, Cond.code yX6_wishBy cX6_wishBy 3 (some .int), Cond.fieldLink RX6 126 "WishPinsModel" "slopeNow" "I", Cond.fieldLink RX6 129 "WishPinsModel" "driftNow" "I", Cond.methodLink RX6 216 yX6_share, Cond.static yX6_share]
def wsX6_odds_r2 : List Cond := [Cond.code yX6_share cX6_share 11 (some .long)]
def wsX6_odds : List Cond := .code yX6_odds cX6_odds 7 (some .long) :: ((wsX6_odds_r1 ++ wsX6_odds_r2) ++ wsX60)
def wsX6_sheet : List Cond := .code yX6_sheet cX6_sheet 5 (some .int) :: ([.constantLong RX6 117 (2), .fieldLink RX6 46 "WishPinsModel" "sheetSize" "[I", .fieldLink RX6 49 "WishPinsModel" "sheetLane" "[I", .fieldLink RX6 52 "WishPinsModel" "sheet" "[I", .methodLink RX6 110 yX6_noSheet, .static yX6_noSheet, .initialized RX6, .code yX6_noSheet cX6_noSheet 1 (some .boolean), .constantLong RX6 220 (3), .methodLink RX6 71 yX6_in, .static yX6_in, .code yX6_in cX6_in 6 (some .boolean), .methodLink RX6 114 yX6_refused, .instanceMethod yX6_refused, .selects RX6 yX6_refused yX6_refused, .code yX6_refused cX6_refused 2 (some .int), .fieldLink RX6 60 "WishPinsModel" "fault" "I", .methodLink RX6 102 yX6_failed, .instanceMethod yX6_failed, .selects RX6 yX6_failed yX6_failed, .code yX6_failed cX6_failed 2 (some .int)] ++ wsX60)
def wsX6_lose : List Cond := .code yX6_lose cX6_lose 3 (some .int) :: ([.fieldLink RX6 46 "WishPinsModel" "sheetSize" "[I", .methodLink RX6 110 yX6_noSheet, .static yX6_noSheet, .initialized RX6, .code yX6_noSheet cX6_noSheet 1 (some .boolean), .constantLong RX6 220 (3), .methodLink RX6 71 yX6_in, .static yX6_in, .code yX6_in cX6_in 6 (some .boolean)] ++ wsX60)
def wsX6_noCell : List Cond := .code yX6_noCell cX6_noCell 3 (some .int) :: ([.fieldLink RX6 46 "WishPinsModel" "sheetSize" "[I", .methodLink RX6 71 yX6_in, .static yX6_in, .initialized RX6, .code yX6_in cX6_in 6 (some .boolean)] ++ wsX60)
def wsX6_put : List Cond := .code yX6_put cX6_put 4 (some .int) :: ([.fieldLink RX6 52 "WishPinsModel" "sheet" "[I", .fieldLink RX6 49 "WishPinsModel" "sheetLane" "[I", .methodLink RX6 110 yX6_noSheet, .static yX6_noSheet, .initialized RX6, .code yX6_noSheet cX6_noSheet 1 (some .boolean), .constantLong RX6 220 (3), .methodLink RX6 71 yX6_in, .static yX6_in, .code yX6_in cX6_in 6 (some .boolean), .methodLink RX6 114 yX6_refused, .instanceMethod yX6_refused, .selects RX6 yX6_refused yX6_refused, .code yX6_refused cX6_refused 2 (some .int), .fieldLink RX6 60 "WishPinsModel" "fault" "I", .methodLink RX6 222 yX6_noCell, .instanceMethod yX6_noCell, .selects RX6 yX6_noCell yX6_noCell, .code yX6_noCell cX6_noCell 3 (some .int), .fieldLink RX6 46 "WishPinsModel" "sheetSize" "[I", .methodLink RX6 102 yX6_failed, .instanceMethod yX6_failed, .selects RX6 yX6_failed yX6_failed, .code yX6_failed cX6_failed 2 (some .int)] ++ wsX60)
def wsX6_cell_r1 : List Cond := [Cond.fieldLink RX6 60 "WishPinsModel" "fault" "I", Cond.constantLong RX6 117 (2), Cond.fieldLink RX6 46 "WishPinsModel" "sheetSize" "[I", Cond.fieldLink RX6 49 "WishPinsModel" "sheetLane" "[I", Cond.fieldLink RX6 52 "WishPinsModel" "sheet" "[I", Cond.methodLink RX6 110 yX6_noSheet, Cond.static yX6_noSheet, Cond.initialized RX6, Cond.code yX6_noSheet cX6_noSheet 1 (some .boolean), Cond.constantLong RX6 220 (3), Cond.methodLink RX6 71 yX6_in, Cond.static yX6_in, Cond.code yX6_in cX6_in 6 (some .boolean), Cond.methodLink RX6 64 yX6_lost, Cond.static yX6_lost, Cond.code yX6_lost cX6_lost 0 (some .long), Cond.constantLong RX6 58 (-9223372036854775808), Cond.methodLink RX6 225 yX6_failedLong, Cond.instanceMethod yX6_failedLong, Cond.selects RX6 yX6_failedLong yX6_failedLong, Cond.code yX6_failedLong cX6_failedLong 2 (some .long), Cond.methodLink RX6 222 yX6_noCell, Cond.instanceMethod yX6_noCell, Cond.selects RX6 yX6_noCell yX6_noCell]
def wsX6_cell_r2 : List Cond := [Cond.code yX6_noCell cX6_noCell 3 (some .int)]
def wsX6_cell : List Cond := .code yX6_cell cX6_cell 4 (some .long) :: ((wsX6_cell_r1 ++ wsX6_cell_r2) ++ wsX60)
def wsX6_copy : List Cond := .code yX6_copy cX6_copy 7 (some .int) :: ([.fieldLink RX6 46 "WishPinsModel" "sheetSize" "[I", .fieldLink RX6 49 "WishPinsModel" "sheetLane" "[I", .fieldLink RX6 55 "WishPinsModel" "hands" "[I", .fieldLink RX6 52 "WishPinsModel" "sheet" "[I", .methodLink RX6 110 yX6_noSheet, .static yX6_noSheet, .initialized RX6, .code yX6_noSheet cX6_noSheet 1 (some .boolean), .constantLong RX6 220 (3), .methodLink RX6 71 yX6_in, .static yX6_in, .code yX6_in cX6_in 6 (some .boolean), .methodLink RX6 114 yX6_refused, .instanceMethod yX6_refused, .selects RX6 yX6_refused yX6_refused, .code yX6_refused cX6_refused 2 (some .int), .fieldLink RX6 60 "WishPinsModel" "fault" "I", .methodLink RX6 102 yX6_failed, .instanceMethod yX6_failed, .selects RX6 yX6_failed yX6_failed, .code yX6_failed cX6_failed 2 (some .int), .methodLink RX6 106 yX6_isBeyond, .static yX6_isBeyond, .code yX6_isBeyond cX6_isBeyond 4 (some .boolean)] ++ wsX60)
def wsX6_traced : List Cond := .code yX6_traced cX6_traced 2 none :: ([.fieldLink RX6 229 "WishPinsModel" "traceNow" "I"] ++ wsX60)
def wsX6_tell : List Cond := .code yX6_tell cX6_tell 4 (some .int) :: ([.fieldLink RX6 7 "WishPinsModel" "kindOf" "[I", .fieldLink RX6 13 "WishPinsModel" "bendOf" "[I", .methodLink RX6 147 yX6_noPin, .instanceMethod yX6_noPin, .selects RX6 yX6_noPin yX6_noPin, .initialized RX6, .code yX6_noPin cX6_noPin 2 (some .boolean), .fieldLink RX6 68 "WishPinsModel" "pins" "I", .methodLink RX6 71 yX6_in, .static yX6_in, .code yX6_in cX6_in 6 (some .boolean), .methodLink RX6 232 yX6_traced, .instanceMethod yX6_traced, .selects RX6 yX6_traced yX6_traced, .code yX6_traced cX6_traced 2 none, .fieldLink RX6 229 "WishPinsModel" "traceNow" "I"] ++ wsX60)
def wsX6_splash : List Cond := .code yX6_splash cX6_splash 2 (some .int) :: ([.fieldLink RX6 7 "WishPinsModel" "kindOf" "[I", .methodLink RX6 147 yX6_noPin, .instanceMethod yX6_noPin, .selects RX6 yX6_noPin yX6_noPin, .initialized RX6, .code yX6_noPin cX6_noPin 2 (some .boolean), .fieldLink RX6 68 "WishPinsModel" "pins" "I", .methodLink RX6 71 yX6_in, .static yX6_in, .code yX6_in cX6_in 6 (some .boolean), .methodLink RX6 232 yX6_traced, .instanceMethod yX6_traced, .selects RX6 yX6_traced yX6_traced, .code yX6_traced cX6_traced 2 none, .fieldLink RX6 229 "WishPinsModel" "traceNow" "I"] ++ wsX60)
def wsX6_as : List Cond := .code yX6_as cX6_as 3 (some .int) :: ([.constantLong RX6 117 (2), .fieldLink RX6 7 "WishPinsModel" "kindOf" "[I", .methodLink RX6 147 yX6_noPin, .instanceMethod yX6_noPin, .selects RX6 yX6_noPin yX6_noPin, .initialized RX6, .code yX6_noPin cX6_noPin 2 (some .boolean), .fieldLink RX6 68 "WishPinsModel" "pins" "I", .methodLink RX6 71 yX6_in, .static yX6_in, .code yX6_in cX6_in 6 (some .boolean), .methodLink RX6 114 yX6_refused, .instanceMethod yX6_refused, .selects RX6 yX6_refused yX6_refused, .code yX6_refused cX6_refused 2 (some .int), .fieldLink RX6 60 "WishPinsModel" "fault" "I", .methodLink RX6 102 yX6_failed, .instanceMethod yX6_failed, .selects RX6 yX6_failed yX6_failed, .code yX6_failed cX6_failed 2 (some .int)] ++ wsX60)
def wsX6_trace : List Cond := .code yX6_trace cX6_trace 1 (some .int) :: ([.fieldLink RX6 229 "WishPinsModel" "traceNow" "I"] ++ wsX60)
def wsX6_fault : List Cond := .code yX6_fault cX6_fault 1 (some .int) :: ([.fieldLink RX6 60 "WishPinsModel" "fault" "I"] ++ wsX60)
def wsX6_many : List Cond := .code yX6_many cX6_many 2 (some .int) :: ([.fieldLink RX6 68 "WishPinsModel" "pins" "I", .fieldLink RX6 126 "WishPinsModel" "slopeNow" "I", .fieldLink RX6 129 "WishPinsModel" "driftNow" "I", .fieldLink RX6 132 "WishPinsModel" "yearNow" "I", .fieldLink RX6 135 "WishPinsModel" "readings" "I"] ++ wsX60)
def wsJ9_max_7cf53 : List Cond := .code yJ9_max_7cf53 cJ9_max_7cf53 2 (some .int) :: ([])
def wsJ9_min_7cf53 : List Cond := .code yJ9_min_7cf53 cJ9_min_7cf53 2 (some .int) :: ([])
def wsL_law_r1 : List Cond := [Cond.classLink RL 7 RX5, Cond.instantiable RX5 7, Cond.initialized RX5, Cond.classLink RL 10 RX6, Cond.instantiable RX6 30, Cond.initialized RX6, Cond.methodLink RL 9 yX5_init, Cond.instanceMethod yX5_init, Cond.code yX5_init cX5_init 2 none, Cond.methodLink RX5 3 objectInit, Cond.instanceMethod objectInit, Cond.code objectInit ⟨#[0xb1]⟩ 1 none, Cond.classLink RX5 9 RX4, Cond.instantiable RX4 7, Cond.initialized RX4, Cond.fieldLink RX5 12 "WishPins" "lying" "LWishPins$Well;", Cond.classLink RX5 18 RX2, Cond.instantiable RX2 3, Cond.initialized RX2, Cond.fieldLink RX5 21 "WishPins" "readings" "LWishPins$Readings;", Cond.classLink RX5 25 RX0, Cond.instantiable RX0 3, Cond.initialized RX0, Cond.fieldLink RX5 28 "WishPins" "future" "LWishPins$Century;"]
def wsL_law_r2 : List Cond := [Cond.classLink RX5 32 RX1, Cond.instantiable RX1 5, Cond.initialized RX1, Cond.fieldLink RX5 35 "WishPins" "orders" "LWishPins$Layers;", Cond.classLink RX5 39 RX3, Cond.fieldLink RX5 41 "WishPins" "sheets" "[LWishPins$Sheet;", Cond.instantiable RX3 3, Cond.initialized RX3, Cond.instanceMethod yX4_init, Cond.code yX4_init cX4_init 1 none, Cond.methodLink RX4 3 objectInit, Cond.arrayClass .int, Cond.fieldLink RX4 9 "WishPins$Well" "kind" "[I", Cond.fieldLink RX4 15 "WishPins$Well" "bend" "[I", Cond.fieldLink RX4 18 "WishPins$Well" "year" "[I", Cond.instanceMethod yX2_init, Cond.code yX2_init cX2_init 1 none, Cond.methodLink RX2 3 objectInit, Cond.fieldLink RX2 9 "WishPins$Readings" "pin" "[I", Cond.fieldLink RX2 15 "WishPins$Readings" "wish" "[I", Cond.instanceMethod yX0_init, Cond.code yX0_init cX0_init 1 none, Cond.methodLink RX0 3 objectInit, Cond.classLink RX0 9 RX4]
def wsL_law_r3 : List Cond := [Cond.fieldLink RX0 12 "WishPins$Century" "then" "LWishPins$Well;", Cond.instanceMethod yX1_init, Cond.code yX1_init cX1_init 1 none, Cond.methodLink RX1 3 objectInit, Cond.fieldLink RX1 9 "WishPins$Layers" "share" "[I", Cond.fieldLink RX1 15 "WishPins$Layers" "wanted" "[I", Cond.fieldLink RX1 18 "WishPins$Layers" "spare" "[I", Cond.instanceMethod yX3_init, Cond.code yX3_init cX3_init 1 none, Cond.methodLink RX3 3 objectInit, Cond.fieldLink RX3 9 "WishPins$Sheet" "cells" "[I", Cond.fieldLink RX3 15 "WishPins$Sheet" "lane" "I", Cond.methodLink RL 12 yX6_init, Cond.instanceMethod yX6_init, Cond.code yX6_init cX6_init 2 none, Cond.methodLink RX6 1 objectInit, Cond.fieldLink RX6 7 "WishPinsModel" "kindOf" "[I", Cond.fieldLink RX6 13 "WishPinsModel" "bendOf" "[I", Cond.fieldLink RX6 16 "WishPinsModel" "yearOf" "[I", Cond.fieldLink RX6 19 "WishPinsModel" "readKind" "[I", Cond.fieldLink RX6 22 "WishPinsModel" "readBend" "[I", Cond.fieldLink RX6 25 "WishPinsModel" "readThrown" "[I", Cond.fieldLink RX6 28 "WishPinsModel" "kindKept" "[I", Cond.fieldLink RX6 31 "WishPinsModel" "bendKept" "[I"]
def wsL_law_r4 : List Cond := [Cond.fieldLink RX6 34 "WishPinsModel" "thrownKept" "[I", Cond.fieldLink RX6 37 "WishPinsModel" "waysOn" "[I", Cond.fieldLink RX6 40 "WishPinsModel" "readingOf" "[I", Cond.fieldLink RX6 43 "WishPinsModel" "readingWas" "[I", Cond.fieldLink RX6 46 "WishPinsModel" "sheetSize" "[I", Cond.fieldLink RX6 49 "WishPinsModel" "sheetLane" "[I", Cond.fieldLink RX6 52 "WishPinsModel" "sheet" "[I", Cond.fieldLink RX6 55 "WishPinsModel" "hands" "[I", Cond.methodLink RL 13 yX5_well, Cond.instanceMethod yX5_well, Cond.selects RX5 yX5_well yX5_well, Cond.code yX5_well cX5_well 8 (some .int), Cond.fieldLink RX5 46 "WishPins" "latestFault" "I", Cond.fieldLink RX5 79 "WishPins$Well" "pins" "I", Cond.methodLink RX5 50 yX5_isSheet, Cond.static yX5_isSheet, Cond.code yX5_isSheet cX5_isSheet 1 (some .boolean), Cond.methodLink RX5 54 yX5_isLane, Cond.static yX5_isLane, Cond.code yX5_isLane cX5_isLane 1 (some .boolean), Cond.methodLink RX5 57 yX3_faultAs, Cond.instanceMethod yX3_faultAs, Cond.selects RX3 yX3_faultAs yX3_faultAs, Cond.code yX3_faultAs cX3_faultAs 2 (some .int)]
def wsL_law_r5 : List Cond := [Cond.methodLink RX3 31 yX3_hasRow, Cond.instanceMethod yX3_hasRow, Cond.selects RX3 yX3_hasRow yX3_hasRow, Cond.code yX3_hasRow cX3_hasRow 1 (some .boolean), Cond.methodLink RX5 61 yX3_hasCells, Cond.instanceMethod yX3_hasCells, Cond.selects RX3 yX3_hasCells yX3_hasCells, Cond.code yX3_hasCells cX3_hasCells 3 (some .boolean), Cond.fieldLink RX3 28 "WishPins$Sheet" "length" "I", Cond.methodLink RX5 65 yX5_failed, Cond.instanceMethod yX5_failed, Cond.selects RX5 yX5_failed yX5_failed, Cond.code yX5_failed cX5_failed 2 (some .int), Cond.methodLink RX5 68 yX5_firstFault, Cond.static yX5_firstFault, Cond.code yX5_firstFault cX5_firstFault 4 (some .int), Cond.methodLink RX5 143 yX3_at, Cond.instanceMethod yX3_at, Cond.selects RX3 yX3_at yX3_at, Cond.code yX3_at cX3_at 2 (some .int), Cond.methodLink RX3 39 yX3_hasCells, Cond.methodLink RX5 228 yX5_goesOn, Cond.static yX5_goesOn, Cond.code yX5_goesOn cX5_goesOn 2 (some .boolean)]
def wsL_law_r6 : List Cond := [Cond.methodLink RX5 72 yX4_fill, Cond.instanceMethod yX4_fill, Cond.selects RX4 yX4_fill yX4_fill, Cond.code yX4_fill cX4_fill 6 none, Cond.fieldLink RX4 27 "WishPins$Well" "slope" "I", Cond.fieldLink RX4 31 "WishPins$Well" "drift" "I", Cond.fieldLink RX4 34 "WishPins$Well" "pins" "I", Cond.fieldLink RX4 37 "WishPins$Well" "now" "I", Cond.methodLink RX4 21 yX3_at, Cond.methodLink RX4 40 yX4_addTop, Cond.instanceMethod yX4_addTop, Cond.selects RX4 yX4_addTop yX4_addTop, Cond.code yX4_addTop cX4_addTop 3 (some .boolean), Cond.methodLink RX5 76 yX2_clear, Cond.instanceMethod yX2_clear, Cond.selects RX2 yX2_clear yX2_clear, Cond.code yX2_clear cX2_clear 1 none, Cond.fieldLink RX2 18 "WishPins$Readings" "count" "I", Cond.methodLink RL 17 yX6_well, Cond.instanceMethod yX6_well, Cond.selects RX6 yX6_well yX6_well, Cond.code yX6_well cX6_well 7 (some .int), Cond.constantLong RX6 117 (2), Cond.fieldLink RX6 75 "WishPinsModel" "readAt" "I"]
def wsL_law_r7 : List Cond := [Cond.fieldLink RX6 82 "WishPinsModel" "readPins" "I", Cond.fieldLink RX6 68 "WishPinsModel" "pins" "I", Cond.fieldLink RX6 92 "WishPinsModel" "readSlope" "I", Cond.fieldLink RX6 126 "WishPinsModel" "slopeNow" "I", Cond.fieldLink RX6 95 "WishPinsModel" "readDrift" "I", Cond.fieldLink RX6 129 "WishPinsModel" "driftNow" "I", Cond.fieldLink RX6 89 "WishPinsModel" "readYear" "I", Cond.fieldLink RX6 132 "WishPinsModel" "yearNow" "I", Cond.fieldLink RX6 135 "WishPinsModel" "readings" "I", Cond.methodLink RX6 110 yX6_noSheet, Cond.static yX6_noSheet, Cond.code yX6_noSheet cX6_noSheet 1 (some .boolean), Cond.constantLong RX6 220 (3), Cond.methodLink RX6 71 yX6_in, Cond.static yX6_in, Cond.code yX6_in cX6_in 6 (some .boolean), Cond.methodLink RX6 114 yX6_refused, Cond.instanceMethod yX6_refused, Cond.selects RX6 yX6_refused yX6_refused, Cond.code yX6_refused cX6_refused 2 (some .int), Cond.fieldLink RX6 60 "WishPinsModel" "fault" "I", Cond.methodLink RX6 119 yX6_cellsBarred, Cond.instanceMethod yX6_cellsBarred, Cond.selects RX6 yX6_cellsBarred yX6_cellsBarred]
def wsL_law_r8 : List Cond := [Cond.code yX6_cellsBarred cX6_cellsBarred 6 (some .int), Cond.methodLink RX6 102 yX6_failed, Cond.instanceMethod yX6_failed, Cond.selects RX6 yX6_failed yX6_failed, Cond.code yX6_failed cX6_failed 2 (some .int), Cond.methodLink RX6 106 yX6_isBeyond, Cond.static yX6_isBeyond, Cond.code yX6_isBeyond cX6_isBeyond 4 (some .boolean), Cond.methodLink RX6 123 yX6_readsWell, Cond.instanceMethod yX6_readsWell, Cond.selects RX6 yX6_readsWell yX6_readsWell, Cond.code yX6_readsWell cX6_readsWell 4 (some .boolean), Cond.methodLink RX6 78 yX6_codeAt, Cond.instanceMethod yX6_codeAt, Cond.selects RX6 yX6_codeAt yX6_codeAt, Cond.code yX6_codeAt cX6_codeAt 3 (some .int), Cond.methodLink RX6 85 yX6_figure, Cond.instanceMethod yX6_figure, Cond.selects RX6 yX6_figure yX6_figure, Cond.code yX6_figure cX6_figure 8 (some .int), Cond.methodLink RX6 98 yX6_readsPin, Cond.instanceMethod yX6_readsPin, Cond.selects RX6 yX6_readsPin yX6_readsPin, Cond.code yX6_readsPin cX6_readsPin 6 (some .boolean)]
def wsL_law_r9 : List Cond := [Cond.methodLink RL 18 yX5_ofPin, Cond.instanceMethod yX5_ofPin, Cond.selects RX5 yX5_ofPin yX5_ofPin, Cond.code yX5_ofPin cX5_ofPin 3 (some .int), Cond.fieldLink RX5 101 "WishPins$Well" "now" "I", Cond.methodLink RX5 82 yX4_isPin, Cond.instanceMethod yX4_isPin, Cond.selects RX4 yX4_isPin yX4_isPin, Cond.code yX4_isPin cX4_isPin 2 (some .boolean), Cond.methodLink RX5 85 yX4_kindAt, Cond.instanceMethod yX4_kindAt, Cond.selects RX4 yX4_kindAt yX4_kindAt, Cond.code yX4_kindAt cX4_kindAt 2 (some .int), Cond.methodLink RX4 50 yX4_isPin, Cond.methodLink RX5 88 yX4_bendAt, Cond.instanceMethod yX4_bendAt, Cond.selects RX4 yX4_bendAt yX4_bendAt, Cond.code yX4_bendAt cX4_bendAt 2 (some .int), Cond.methodLink RX5 91 yX4_yearAt, Cond.instanceMethod yX4_yearAt, Cond.selects RX4 yX4_yearAt yX4_yearAt, Cond.code yX4_yearAt cX4_yearAt 2 (some .int), Cond.methodLink RX5 94 yX5_turnOf, Cond.static yX5_turnOf]
def wsL_law_r10 : List Cond := [Cond.code yX5_turnOf cX5_turnOf 2 (some .int), Cond.methodLink RX5 98 yX4_wishAt, Cond.instanceMethod yX4_wishAt, Cond.selects RX4 yX4_wishAt yX4_wishAt, Cond.code yX4_wishAt cX4_wishAt 2 (some .int), Cond.static yX5_wishOf, Cond.code yX5_wishOf cX5_wishOf 4 (some .int), Cond.methodLink RL 22 yX6_ofPin, Cond.instanceMethod yX6_ofPin, Cond.selects RX6 yX6_ofPin yX6_ofPin, Cond.code yX6_ofPin cX6_ofPin 3 (some .int), Cond.methodLink RX6 147 yX6_noPin, Cond.instanceMethod yX6_noPin, Cond.selects RX6 yX6_noPin yX6_noPin, Cond.code yX6_noPin cX6_noPin 2 (some .boolean), Cond.methodLink RX6 141 yX6_turnOf, Cond.instanceMethod yX6_turnOf, Cond.selects RX6 yX6_turnOf yX6_turnOf, Cond.code yX6_turnOf cX6_turnOf 2 (some .int), Cond.methodLink RX6 138 yX6_turnBy, Cond.static yX6_turnBy, Cond.code yX6_turnBy cX6_turnBy 2 (some .int), Cond.methodLink RX6 150 yX6_wishOf, Cond.instanceMethod yX6_wishOf]
def wsL_law_r11 : List Cond := [Cond.selects RX6 yX6_wishOf yX6_wishOf, Cond.code yX6_wishOf cX6_wishOf 2 (some .int), Cond.methodLink RX6 144 yX6_wishBy, Cond.instanceMethod yX6_wishBy, Cond.selects RX6 yX6_wishBy yX6_wishBy, Cond.code yX6_wishBy cX6_wishBy 3 (some .int), Cond.methodLink RL 23 yX5_bend, Cond.instanceMethod yX5_bend, Cond.selects RX5 yX5_bend yX5_bend, Cond.code yX5_bend cX5_bend 4 (some .int), Cond.methodLink RX5 104 yX5_isBend, Cond.static yX5_isBend, Cond.code yX5_isBend cX5_isBend 1 (some .boolean), Cond.methodLink RX5 107 yX4_setBend, Cond.instanceMethod yX4_setBend, Cond.selects RX4 yX4_setBend yX4_setBend, Cond.code yX4_setBend cX4_setBend 3 none, Cond.methodLink RL 26 yX6_bend, Cond.instanceMethod yX6_bend, Cond.selects RX6 yX6_bend yX6_bend, Cond.code yX6_bend cX6_bend 4 (some .int), Cond.constantLong RX6 153 (9), Cond.methodLink RL 27 yX5_rekey, Cond.instanceMethod yX5_rekey]
def wsL_law_r12 : List Cond := [Cond.selects RX5 yX5_rekey yX5_rekey, Cond.code yX5_rekey cX5_rekey 4 (some .int), Cond.fieldLink RX5 115 "WishPins$Well" "slope" "I", Cond.fieldLink RX5 118 "WishPins$Well" "drift" "I", Cond.methodLink RX5 111 yX5_hasWell, Cond.instanceMethod yX5_hasWell, Cond.selects RX5 yX5_hasWell yX5_hasWell, Cond.code yX5_hasWell cX5_hasWell 1 (some .boolean), Cond.methodLink RX5 121 yX5_keyNumber, Cond.static yX5_keyNumber, Cond.code yX5_keyNumber cX5_keyNumber 2 (some .int), Cond.methodLink RL 30 yX6_rekey, Cond.instanceMethod yX6_rekey, Cond.selects RX6 yX6_rekey yX6_rekey, Cond.code yX6_rekey cX6_rekey 4 (some .int), Cond.constantLong RX6 155 (5), Cond.methodLink RL 31 yX5_wished, Cond.instanceMethod yX5_wished, Cond.selects RX5 yX5_wished yX5_wished, Cond.code yX5_wished cX5_wished 4 (some .int), Cond.methodLink RX5 124 yX5_isWish, Cond.static yX5_isWish, Cond.code yX5_isWish cX5_isWish 1 (some .boolean), Cond.methodLink RL 35 yX6_wished]
def wsL_law_r13 : List Cond := [Cond.instanceMethod yX6_wished, Cond.selects RX6 yX6_wished yX6_wished, Cond.code yX6_wished cX6_wished 4 (some .int), Cond.methodLink RL 36 yX5_throwIn, Cond.instanceMethod yX5_throwIn, Cond.selects RX5 yX5_throwIn yX5_throwIn, Cond.code yX5_throwIn cX5_throwIn 3 (some .int), Cond.methodLink RX5 127 yX5_isKind, Cond.static yX5_isKind, Cond.code yX5_isKind cX5_isKind 1 (some .boolean), Cond.methodLink RX5 130 yX4_addTop, Cond.methodLink RL 39 yX6_throwIn, Cond.instanceMethod yX6_throwIn, Cond.selects RX6 yX6_throwIn yX6_throwIn, Cond.code yX6_throwIn cX6_throwIn 3 (some .int), Cond.methodLink RX6 157 yX6_threw, Cond.instanceMethod yX6_threw, Cond.selects RX6 yX6_threw yX6_threw, Cond.code yX6_threw cX6_threw 3 (some .boolean), Cond.methodLink RL 40 yX5_fish, Cond.instanceMethod yX5_fish, Cond.selects RX5 yX5_fish yX5_fish, Cond.code yX5_fish cX5_fish 2 (some .int), Cond.methodLink RX5 133 yX4_dropTop]
def wsL_law_r14 : List Cond := [Cond.instanceMethod yX4_dropTop, Cond.selects RX4 yX4_dropTop yX4_dropTop, Cond.code yX4_dropTop cX4_dropTop 1 (some .boolean), Cond.methodLink RL 44 yX6_fish, Cond.instanceMethod yX6_fish, Cond.selects RX6 yX6_fish yX6_fish, Cond.code yX6_fish cX6_fish 1 (some .int), Cond.methodLink RL 45 yX5_years, Cond.instanceMethod yX5_years, Cond.selects RX5 yX5_years yX5_years, Cond.code yX5_years cX5_years 2 (some .int), Cond.methodLink RL 48 yX6_years, Cond.instanceMethod yX6_years, Cond.selects RX6 yX6_years yX6_years, Cond.code yX6_years cX6_years 2 (some .int), Cond.constantLong RX6 160 (99), Cond.methodLink RL 49 yX5_century, Cond.instanceMethod yX5_century, Cond.selects RX5 yX5_century yX5_century, Cond.code yX5_century cX5_century 9 (some .int), Cond.methodLink RX5 136 yX5_isToldOfCentury, Cond.static yX5_isToldOfCentury, Cond.code yX5_isToldOfCentury cX5_isToldOfCentury 1 (some .boolean), Cond.methodLink RX5 139 yX3_faultOfCells]
def wsL_law_r15 : List Cond := [Cond.instanceMethod yX3_faultOfCells, Cond.selects RX3 yX3_faultOfCells yX3_faultOfCells, Cond.code yX3_faultOfCells cX3_faultOfCells 5 (some .int), Cond.methodLink RX3 35 yX3_faultAs, Cond.methodLink RX5 146 yX5_isAct, Cond.static yX5_isAct, Cond.code yX5_isAct cX5_isAct 2 (some .boolean), Cond.methodLink RX5 149 yX0_play, Cond.instanceMethod yX0_play, Cond.selects RX0 yX0_play yX0_play, Cond.code yX0_play cX0_play 6 none, Cond.fieldLink RX0 22 "WishPins$Century" "firstWrong" "I", Cond.fieldLink RX0 26 "WishPins$Century" "likeBelow" "I", Cond.methodLink RX0 18 yX4_become, Cond.instanceMethod yX4_become, Cond.selects RX4 yX4_become yX4_become, Cond.code yX4_become cX4_become 2 none, Cond.methodLink RX4 44 arraycopyName, Cond.native arraycopyName, Cond.static arraycopyName, Cond.initialized "java/lang/System", Cond.methodLink RX0 29 yX3_at, Cond.methodLink RX0 35 yX0_canDo, Cond.instanceMethod yX0_canDo]
def wsL_law_r16 : List Cond := [Cond.selects RX0 yX0_canDo yX0_canDo, Cond.code yX0_canDo cX0_canDo 4 (some .boolean), Cond.fieldLink RX0 43 "WishPins$Well" "now" "I", Cond.fieldLink RX0 46 "WishPins$Well" "pins" "I", Cond.methodLink RX0 39 yX4_dropTop, Cond.methodLink RX0 49 yX4_wishAt, Cond.methodLink RX0 52 yX4_addTop, Cond.methodLink RX5 153 yX0_told, Cond.instanceMethod yX0_told, Cond.selects RX0 yX0_told yX0_told, Cond.code yX0_told cX0_told 2 (some .int), Cond.methodLink RX0 55 yX0_allWishes, Cond.instanceMethod yX0_allWishes, Cond.selects RX0 yX0_allWishes yX0_allWishes, Cond.code yX0_allWishes cX0_allWishes 3 (some .int), Cond.methodLink RL 53 yX6_century, Cond.instanceMethod yX6_century, Cond.selects RX6 yX6_century yX6_century, Cond.code yX6_century cX6_century 8 (some .int), Cond.constantLong RX6 170 (20), Cond.constantLong RX6 168 (4), Cond.constantLong RX6 172 (10), Cond.constantLong RX6 174 (18), Cond.methodLink RX6 176 yX6_isPair]
def wsL_law_r17 : List Cond := [Cond.static yX6_isPair, Cond.code yX6_isPair cX6_isPair 2 (some .boolean), Cond.methodLink RX6 179 yX6_keepAll, Cond.instanceMethod yX6_keepAll, Cond.selects RX6 yX6_keepAll yX6_keepAll, Cond.code yX6_keepAll cX6_keepAll 2 none, Cond.fieldLink RX6 162 "WishPinsModel" "pinsKept" "I", Cond.fieldLink RX6 165 "WishPinsModel" "yearKept" "I", Cond.methodLink RX6 182 yX6_centuryBy, Cond.instanceMethod yX6_centuryBy, Cond.selects RX6 yX6_centuryBy yX6_centuryBy, Cond.code yX6_centuryBy cX6_centuryBy 10 (some .int), Cond.methodLink RX6 186 yX6_bringBack, Cond.instanceMethod yX6_bringBack, Cond.selects RX6 yX6_bringBack yX6_bringBack, Cond.code yX6_bringBack cX6_bringBack 2 none, Cond.methodLink RL 54 yX5_quiet, Cond.instanceMethod yX5_quiet, Cond.selects RX5 yX5_quiet yX5_quiet, Cond.code yX5_quiet cX5_quiet 7 (some .int), Cond.methodLink RL 57 yX6_quiet, Cond.instanceMethod yX6_quiet, Cond.selects RX6 yX6_quiet yX6_quiet, Cond.code yX6_quiet cX6_quiet 7 (some .int)]
def wsL_law_r18 : List Cond := [Cond.methodLink RL 58 yX5_run, Cond.instanceMethod yX5_run, Cond.selects RX5 yX5_run yX5_run, Cond.code yX5_run cX5_run 6 (some .int), Cond.methodLink RL 61 yX6_run, Cond.instanceMethod yX6_run, Cond.selects RX6 yX6_run yX6_run, Cond.code yX6_run cX6_run 6 (some .int), Cond.methodLink RL 62 yX5_shape, Cond.instanceMethod yX5_shape, Cond.selects RX5 yX5_shape yX5_shape, Cond.code yX5_shape cX5_shape 4 (some .int), Cond.methodLink RX5 156 yX4_wishNow, Cond.instanceMethod yX4_wishNow, Cond.selects RX4 yX4_wishNow yX4_wishNow, Cond.code yX4_wishNow cX4_wishNow 3 (some .int), Cond.methodLink RL 65 yX6_shape, Cond.instanceMethod yX6_shape, Cond.selects RX6 yX6_shape yX6_shape, Cond.code yX6_shape cX6_shape 5 (some .int), Cond.methodLink RL 66 yX5_layers, Cond.instanceMethod yX5_layers, Cond.selects RX5 yX5_layers yX5_layers, Cond.code yX5_layers cX5_layers 9 (some .int)]
def wsL_law_r19 : List Cond := [Cond.fieldLink RX5 163 "WishPins$Layers" "ways" "I", Cond.methodLink RX5 159 yX1_ask, Cond.instanceMethod yX1_ask, Cond.selects RX1 yX1_ask yX1_ask, Cond.code yX1_ask cX1_ask 6 none, Cond.fieldLink RX1 21 "WishPins$Well" "pins" "I", Cond.methodLink RX1 27 Lib.Math.min.name, Cond.static Lib.Math.min.name, Cond.initialized "java/lang/Math", Cond.code Lib.Math.min.name Lib.Math.min.code 2 (some .int), Cond.fieldLink RX1 33 "WishPins$Layers" "pins" "I", Cond.fieldLink RX1 40 "WishPins$Well" "slope" "I", Cond.fieldLink RX1 49 "WishPins$Well" "drift" "I", Cond.fieldLink RX1 59 "WishPins$Layers" "ways" "I", Cond.methodLink RX1 34 yX3_at, Cond.methodLink RX1 43 yX4_turnAt, Cond.instanceMethod yX4_turnAt, Cond.selects RX4 yX4_turnAt yX4_turnAt, Cond.code yX4_turnAt cX4_turnAt 2 (some .int), Cond.methodLink RX1 46 yJ9_floorMod_7cf53, Cond.static yJ9_floorMod_7cf53, Cond.initialized RJ9, Cond.code yJ9_floorMod_7cf53 cJ9_floorMod_7cf53 3 (some .int), Cond.methodLink RX1 52 yX4_yearAt]
def wsL_law_r20 : List Cond := [Cond.methodLink RX1 55 yX1_countWays, Cond.instanceMethod yX1_countWays, Cond.selects RX1 yX1_countWays yX1_countWays, Cond.code yX1_countWays cX1_countWays 5 (some .int), Cond.methodLink RX5 166 yX1_firstAt, Cond.instanceMethod yX1_firstAt, Cond.selects RX1 yX1_firstAt yX1_firstAt, Cond.code yX1_firstAt cX1_firstAt 5 (some .int), Cond.methodLink RX1 62 yX1_leastFor, Cond.instanceMethod yX1_leastFor, Cond.selects RX1 yX1_leastFor yX1_leastFor, Cond.code yX1_leastFor cX1_leastFor 6 (some .int), Cond.methodLink RL 69 yX6_layers, Cond.instanceMethod yX6_layers, Cond.selects RX6 yX6_layers yX6_layers, Cond.code yX6_layers cX6_layers 7 (some .int), Cond.constantLong RX6 199 (-1), Cond.constantLong RX6 201 (8), Cond.constantLong RX6 203 (6), Cond.methodLink RX6 205 yX6_countWays, Cond.instanceMethod yX6_countWays, Cond.selects RX6 yX6_countWays yX6_countWays, Cond.code yX6_countWays cX6_countWays 7 none, Cond.methodLink RX6 189 yX6_bits]
def wsL_law_r21 : List Cond := [Cond.static yX6_bits, Cond.code yX6_bits cX6_bits 3 (some .int), Cond.methodLink RX6 192 yX6_isIn, Cond.static yX6_isIn, Cond.code yX6_isIn cX6_isIn 2 (some .boolean), Cond.methodLink RX6 195 yX6_mayLie, Cond.instanceMethod yX6_mayLie, Cond.selects RX6 yX6_mayLie yX6_mayLie, Cond.code yX6_mayLie cX6_mayLie 4 (some .boolean), Cond.methodLink RX6 209 yX6_firstIn, Cond.instanceMethod yX6_firstIn, Cond.selects RX6 yX6_firstIn yX6_firstIn, Cond.code yX6_firstIn cX6_firstIn 8 (some .int), Cond.methodLink RL 70 yX5_reading, Cond.instanceMethod yX5_reading, Cond.selects RX5 yX5_reading yX5_reading, Cond.code yX5_reading cX5_reading 4 (some .int), Cond.fieldLink RX5 169 "WishPins$Readings" "count" "I", Cond.methodLink RX5 172 yX2_add, Cond.instanceMethod yX2_add, Cond.selects RX2 yX2_add yX2_add, Cond.code yX2_add cX2_add 3 (some .boolean), Cond.methodLink RL 73 yX6_reading, Cond.instanceMethod yX6_reading]
def wsL_law_r22 : List Cond := [Cond.selects RX6 yX6_reading yX6_reading, Cond.code yX6_reading cX6_reading 3 (some .int), Cond.methodLink RL 74 yX5_back, Cond.instanceMethod yX5_back, Cond.selects RX5 yX5_back yX5_back, Cond.code yX5_back cX5_back 2 (some .int), Cond.methodLink RL 77 yX6_back, Cond.instanceMethod yX6_back, Cond.selects RX6 yX6_back yX6_back, Cond.code yX6_back cX6_back 2 (some .int), Cond.methodLink RL 78 yX5_bends, Cond.instanceMethod yX5_bends, Cond.selects RX5 yX5_bends yX5_bends, Cond.code yX5_bends cX5_bends 4 (some .int), Cond.methodLink RX5 175 yX2_areSoWith, Cond.instanceMethod yX2_areSoWith, Cond.selects RX2 yX2_areSoWith yX2_areSoWith, Cond.code yX2_areSoWith cX2_areSoWith 7 (some .boolean), Cond.fieldLink RX2 28 "WishPins$Well" "slope" "I", Cond.fieldLink RX2 31 "WishPins$Well" "drift" "I", Cond.methodLink RX2 22 yX4_turnAt, Cond.methodLink RX2 34 yX4_yearAt, Cond.methodLink RL 81 yX6_bends, Cond.instanceMethod yX6_bends]
def wsL_law_r23 : List Cond := [Cond.selects RX6 yX6_bends yX6_bends, Cond.code yX6_bends cX6_bends 5 (some .int), Cond.methodLink RX6 212 yX6_areSo, Cond.instanceMethod yX6_areSo, Cond.selects RX6 yX6_areSo yX6_areSo, Cond.code yX6_areSo cX6_areSo 3 (some .boolean), Cond.methodLink RL 82 yX5_kinds, Cond.instanceMethod yX5_kinds, Cond.selects RX5 yX5_kinds yX5_kinds, Cond.code yX5_kinds cX5_kinds 4 (some .int), Cond.methodLink RL 85 yX6_kinds, Cond.instanceMethod yX6_kinds, Cond.selects RX6 yX6_kinds yX6_kinds, Cond.code yX6_kinds cX6_kinds 5 (some .int), Cond.methodLink RL 86 yX5_keys, Cond.instanceMethod yX5_keys, Cond.selects RX5 yX5_keys yX5_keys, Cond.code yX5_keys cX5_keys 7 (some .int), Cond.methodLink RX5 179 yX2_areSoByKey, Cond.instanceMethod yX2_areSoByKey, Cond.selects RX2 yX2_areSoByKey yX2_areSoByKey, Cond.code yX2_areSoByKey cX2_areSoByKey 6 (some .boolean), Cond.methodLink RL 89 yX6_keys, Cond.instanceMethod yX6_keys]
def wsL_law_r24 : List Cond := [Cond.selects RX6 yX6_keys yX6_keys, Cond.code yX6_keys cX6_keys 9 (some .int), Cond.methodLink RL 90 yX5_odds, Cond.instanceMethod yX5_odds, Cond.selects RX5 yX5_odds yX5_odds, Cond.code yX5_odds cX5_odds 6 (some .long), Cond.constantLong RX5 182 (-9223372036854775808), Cond.methodLink RX5 184 yX5_greatestShared, Cond.static yX5_greatestShared, Cond.code yX5_greatestShared cX5_greatestShared 3 (some .int), Cond.methodLink RL 94 yX6_odds, Cond.instanceMethod yX6_odds, Cond.selects RX6 yX6_odds yX6_odds, Cond.code yX6_odds cX6_odds 7 (some .long), Cond.methodLink RX6 64 yX6_lost, Cond.static yX6_lost, Cond.code yX6_lost cX6_lost 0 (some .long), Cond.constantLong RX6 58 (-9223372036854775808), Cond.methodLink RX6 216 yX6_share, Cond.static yX6_share, Cond.code yX6_share cX6_share 11 (some .long), Cond.methodLink RL 95 yX5_sheet, Cond.instanceMethod yX5_sheet, Cond.selects RX5 yX5_sheet yX5_sheet]
def wsL_law_r25 : List Cond := [Cond.code yX5_sheet cX5_sheet 4 (some .int), Cond.methodLink RX5 187 yX3_begin, Cond.instanceMethod yX3_begin, Cond.selects RX3 yX3_begin yX3_begin, Cond.code yX3_begin cX3_begin 4 none, Cond.methodLink RX3 19 Lib.Math.min.name, Cond.methodLink RX3 25 Lib.Math.max.name, Cond.static Lib.Math.max.name, Cond.code Lib.Math.max.name Lib.Math.max.code 2 (some .int), Cond.methodLink RL 99 yX6_sheet, Cond.instanceMethod yX6_sheet, Cond.selects RX6 yX6_sheet yX6_sheet, Cond.code yX6_sheet cX6_sheet 5 (some .int), Cond.methodLink RL 100 yX5_lose, Cond.instanceMethod yX5_lose, Cond.selects RX5 yX5_lose yX5_lose, Cond.code yX5_lose cX5_lose 3 (some .int), Cond.methodLink RX5 190 yX3_hasRow, Cond.methodLink RX5 193 yX3_end, Cond.instanceMethod yX3_end, Cond.selects RX3 yX3_end yX3_end, Cond.code yX3_end cX3_end 1 none, Cond.methodLink RL 103 yX6_lose, Cond.instanceMethod yX6_lose]
def wsL_law_r26 : List Cond := [Cond.selects RX6 yX6_lose yX6_lose, Cond.code yX6_lose cX6_lose 3 (some .int), Cond.methodLink RL 104 yX5_put, Cond.instanceMethod yX5_put, Cond.selects RX5 yX5_put yX5_put, Cond.code yX5_put cX5_put 5 (some .int), Cond.methodLink RX5 196 yX3_set, Cond.instanceMethod yX3_set, Cond.selects RX3 yX3_set yX3_set, Cond.code yX3_set cX3_set 3 none, Cond.methodLink RL 107 yX6_put, Cond.instanceMethod yX6_put, Cond.selects RX6 yX6_put yX6_put, Cond.code yX6_put cX6_put 4 (some .int), Cond.methodLink RX6 222 yX6_noCell, Cond.instanceMethod yX6_noCell, Cond.selects RX6 yX6_noCell yX6_noCell, Cond.code yX6_noCell cX6_noCell 3 (some .int), Cond.methodLink RL 108 yX5_cell, Cond.instanceMethod yX5_cell, Cond.selects RX5 yX5_cell yX5_cell, Cond.code yX5_cell cX5_cell 6 (some .long), Cond.methodLink RL 111 yX6_cell, Cond.instanceMethod yX6_cell]
def wsL_law_r27 : List Cond := [Cond.selects RX6 yX6_cell yX6_cell, Cond.code yX6_cell cX6_cell 4 (some .long), Cond.methodLink RX6 225 yX6_failedLong, Cond.instanceMethod yX6_failedLong, Cond.selects RX6 yX6_failedLong yX6_failedLong, Cond.code yX6_failedLong cX6_failedLong 2 (some .long), Cond.methodLink RL 112 yX5_copy, Cond.instanceMethod yX5_copy, Cond.selects RX5 yX5_copy yX5_copy, Cond.code yX5_copy cX5_copy 8 (some .int), Cond.fieldLink RX5 199 "WishPins$Sheet" "lane" "I", Cond.fieldLink RX5 202 "WishPins$Sheet" "cells" "[I", Cond.methodLink RX5 206 arraycopyName, Cond.methodLink RL 115 yX6_copy, Cond.instanceMethod yX6_copy, Cond.selects RX6 yX6_copy yX6_copy, Cond.code yX6_copy cX6_copy 7 (some .int), Cond.methodLink RL 116 yX5_tell, Cond.instanceMethod yX5_tell, Cond.selects RX5 yX5_tell yX5_tell, Cond.code yX5_tell cX5_tell 3 (some .int), Cond.methodLink RX5 212 yX5_tellPlain, Cond.instanceMethod yX5_tellPlain, Cond.selects RX5 yX5_tellPlain yX5_tellPlain]
def wsL_law_r28 : List Cond := [Cond.code yX5_tellPlain cX5_tellPlain 2 (some .int), Cond.methodLink RX5 221 yX5_beginBody, Cond.instanceMethod yX5_beginBody, Cond.selects RX5 yX5_beginBody yX5_beginBody, Cond.code yX5_beginBody cX5_beginBody 2 none, Cond.fieldLink RX5 225 "WishPins" "traced" "I", Cond.methodLink RX5 215 yX5_tellCrook, Cond.instanceMethod yX5_tellCrook, Cond.selects RX5 yX5_tellCrook yX5_tellCrook, Cond.code yX5_tellCrook cX5_tellCrook 2 (some .int), Cond.methodLink RX5 218 yX5_tellDouble, Cond.instanceMethod yX5_tellDouble, Cond.selects RX5 yX5_tellDouble yX5_tellDouble, Cond.code yX5_tellDouble cX5_tellDouble 3 (some .int), Cond.methodLink RL 119 yX6_tell, Cond.instanceMethod yX6_tell, Cond.selects RX6 yX6_tell yX6_tell, Cond.code yX6_tell cX6_tell 4 (some .int), Cond.methodLink RX6 232 yX6_traced, Cond.instanceMethod yX6_traced, Cond.selects RX6 yX6_traced yX6_traced, Cond.code yX6_traced cX6_traced 2 none, Cond.fieldLink RX6 229 "WishPinsModel" "traceNow" "I", Cond.methodLink RL 120 yX5_splash]
def wsL_law_r29 : List Cond := [Cond.instanceMethod yX5_splash, Cond.selects RX5 yX5_splash yX5_splash, Cond.code yX5_splash cX5_splash 2 (some .int), Cond.methodLink RL 123 yX6_splash, Cond.instanceMethod yX6_splash, Cond.selects RX6 yX6_splash yX6_splash, Cond.code yX6_splash cX6_splash 2 (some .int), Cond.methodLink RL 124 yX5_as, Cond.instanceMethod yX5_as, Cond.selects RX5 yX5_as yX5_as, Cond.code yX5_as cX5_as 3 (some .int), Cond.methodLink RL 127 yX6_as, Cond.instanceMethod yX6_as, Cond.selects RX6 yX6_as yX6_as, Cond.code yX6_as cX6_as 3 (some .int), Cond.methodLink RL 128 yX5_trace, Cond.instanceMethod yX5_trace, Cond.selects RX5 yX5_trace yX5_trace, Cond.code yX5_trace cX5_trace 1 (some .int), Cond.methodLink RL 131 yX6_trace, Cond.instanceMethod yX6_trace, Cond.selects RX6 yX6_trace yX6_trace, Cond.code yX6_trace cX6_trace 1 (some .int), Cond.methodLink RL 132 yX5_fault]
def wsL_law_r30 : List Cond := [Cond.instanceMethod yX5_fault, Cond.selects RX5 yX5_fault yX5_fault, Cond.code yX5_fault cX5_fault 1 (some .int), Cond.methodLink RL 135 yX6_fault, Cond.instanceMethod yX6_fault, Cond.selects RX6 yX6_fault yX6_fault, Cond.code yX6_fault cX6_fault 1 (some .int), Cond.methodLink RL 136 yX5_many, Cond.instanceMethod yX5_many, Cond.selects RX5 yX5_many yX5_many, Cond.code yX5_many cX5_many 2 (some .int), Cond.methodLink RL 139 yX6_many, Cond.instanceMethod yX6_many, Cond.selects RX6 yX6_many yX6_many, Cond.code yX6_many cX6_many 2 (some .int)]
def wsL_law : List Cond := (wsL_law_r1 ++ (wsL_law_r2 ++ (wsL_law_r3 ++ (wsL_law_r4 ++ (wsL_law_r5 ++ (wsL_law_r6 ++ (wsL_law_r7 ++ (wsL_law_r8 ++ (wsL_law_r9 ++ (wsL_law_r10 ++ (wsL_law_r11 ++ (wsL_law_r12 ++ (wsL_law_r13 ++ (wsL_law_r14 ++ (wsL_law_r15 ++ (wsL_law_r16 ++ (wsL_law_r17 ++ (wsL_law_r18 ++ (wsL_law_r19 ++ (wsL_law_r20 ++ (wsL_law_r21 ++ (wsL_law_r22 ++ (wsL_law_r23 ++ (wsL_law_r24 ++ (wsL_law_r25 ++ (wsL_law_r26 ++ (wsL_law_r27 ++ (wsL_law_r28 ++ (wsL_law_r29 ++ wsL_law_r30))))))))))))))))))))))))))))) ++ wsX50 ++ wsX60 ++ wsX40 ++ wsX20 ++ wsX00 ++ wsX10 ++ wsX30 ++ ([] : List Cond)
abbrev vwCl : List vw_C := [(RX0, TX0, 3), (RX1, TX1, 5), (RX2, TX2, 3), (RX3, TX3, 3), (RX4, TX4, 7), (RX5, TX5, 7), (RX6, TX6, 30)]
end
section
/-! THE LAYER: a judgement zG over the kit's W that keeps the heap's world, its apartness and the locals inside; contracts zR (reads only) and zW (writes its world), both with exact answers. -/
def zNL : List (String × Nat × MethodName) := [(RX5, 11, yX4_init), (RX5, 20, yX2_init), (RX5, 27, yX0_init), (RX5, 34, yX1_init), (RX5, 45, yX3_init), (RX0, 11, yX4_init), (RX2, 37, yX5_wishOf), (RX4, 54, yX5_turnOf), (RX4, 58, yX5_wishOf)]
def zN (U : State) : Prop := ∀ q ∈ zNL, va_Nw (.methodLinkNest q.1 q.2.1 q.2.2 RX5) U
abbrev zT (cI cO : ClassId) : List (ClassId × FieldType) := [(cI, .int), (cO, .object RX3)]
def zK (D : va_G) (cI cO : ClassId) (U : State) : Prop := va_K D vwCl (zT cI cO) U ∧ zN U
theorem zK.warm {D : va_G} {cI cO : ClassId} {s U : State} (h : zK D cI cO s) (hW : s.WarmedH U.vm) : zK D cI cO U := ⟨va_K.moved hW.alike h.1, fun q hq => va_Nw.warmM hW (h.2 q hq)⟩
theorem zK.blind {D : va_G} {cI cO : ClassId} {U : State} {g : JFrame} {mk : MethodId} {a : Array Value} (h : zK D cI cO U) : zK D cI cO (U.calling g mk a) := ⟨va_K.moved (u := U) (U := U.calling g mk a) (Vm.Alike.refl U.vm) h.1, fun q hq => va_Nw.same rfl rfl (h.2 q hq)⟩
/-- the world's own addresses -/
def zA (ws : va_W) : Nat → Prop := fun q => ∃ (k : Nat) (e : va_E), ws[k]? = some (q, e)
def zPc (D : va_G) (cI cO : ClassId) (av : List Value) (w0 : va_W) : Array Value → State → Prop := va_Pc av (fun U => va_P D vwCl w0 U.heap ∧ zK D cI cO U ∧ va_D (fun _ => True) w0)
theorem zPc.blind {D : va_G} {cI cO : ClassId} {av : List Value} {w0 : va_W} : FrameBlind (zPc D cI cO av w0) := fun a U g mk q => ⟨q.1, q.2.1, q.2.2.1.blind, q.2.2.2⟩
def zQr (v : Option Value) : Array Value → State → Outcome → State → Prop := fun _ st o t => o = .returned v ∧ t.heap = st.heap
def zQw (D : va_G) (w1 : va_W) (A : Nat → Prop) (v : Option Value) : Array Value → State → Outcome → State → Prop := fun _ st o t => (o = .returned v ∧ va_P D vwCl w1 t.heap) ∧ va_F A st t
/-- a contract that reads only -/
def zR (l : Launch) (y : MethodName) (ws : List Cond) (rm : Room) (D : va_G) (cI cO : ClassId) (av : List Value) (w0 : va_W) (v : Option Value) : Prop := Met l y ws rm (zPc D cI cO av w0) (zQr v) 0 0 (fun _ => False)
/-- a contract that writes its world -/
def zW (l : Launch) (y : MethodName) (ws : List Cond) (rm : Room) (D : va_G) (cI cO : ClassId) (av : List Value) (w0 w1 : va_W) (v : Option Value) : Prop := Met l y ws rm (zPc D cI cO av w0) (zQw D w1 (zA w0) v) 0 0 (zA w0)
def zC (p : Program) (s : State) (m : MethodId) (args : Array Value) (c : Code) (cc : ByteArray) (nL : Nat) (own : String) (Ts : List Cond) (D : va_G) (cI cO : ClassId) : Prop := p.tables.exec = Jvm.exec ∧ c.code = cc ∧ c.maxLocals = nL ∧ s.vm.findClass own = some m.cls ∧ (∀ w ∈ Ts, w.before args s = true) ∧ zK D cI cO s
def zG (p : Program) (l : Launch) (e : Env) (R : Room) (s : State) (m : MethodId) (args : Array Value) (below : List Frame) (meth : Method) (c : Code) (D : va_G) (A : Nat → Prop) (X : Heap → List Loc → Prop) (nL cells slots : Nat) (Q : State → Prop) (pc : Nat) (ls : List (Nat × Value)) (st : List Value) (ws : va_W) : Prop :=
  ∀ (H : Heap) (locs : List Loc) (la : Array Slot), va_P D vwCl ws H → va_D A ws → X H locs → lv_has la nL ls → W p l e R s m args below meth c H locs cells slots Q (F0 m pc la st)
abbrev zXr (s : State) : Heap → List Loc → Prop := fun H locs => H = s.heap ∧ locs = []
abbrev zXw (A : Nat → Prop) (H0 : Heap) : Heap → List Loc → Prop := fun H locs => va_S A H0 H locs
/-- the world with a callee's cells put back in their places -/
def zput : va_W → List Nat → va_W → va_W
  | ws, i :: is, q :: w1 => zput (ws.set i q) is w1
  | ws, _, _ => ws
theorem zput_fst : ∀ (is : List Nat) (w1 ws : va_W), is.map (fun i => (ws[i]?).map Prod.fst) = w1.map (fun q => some q.1) → ∀ k : Nat, ((zput ws is w1)[k]?).map Prod.fst = (ws[k]?).map Prod.fst := by
  intro is
  induction is with
  | nil => intro w1 ws h k; cases w1 <;> rfl
  | cons i is ih =>
    intro w1 ws h k
    cases w1 with
    | nil => rfl
    | cons q w1 =>
      simp only [List.map_cons, List.cons.injEq] at h
      obtain ⟨h1, h2⟩ := h
      have hs : ∀ j : Nat, ((ws.set i q)[j]?).map Prod.fst = (ws[j]?).map Prod.fst := by
        intro j
        by_cases hj : i = j
        · subst hj
          by_cases hl : i < ws.length
          · rw [List.getElem?_set_self hl, h1]; rfl
          · rw [List.getElem?_eq_none (by rw [List.length_set]; omega), List.getElem?_eq_none (by omega)]
        · rw [List.getElem?_set_ne hj]
      rw [zput, ih w1 (ws.set i q) (by rw [← h2]; exact List.map_congr_left fun j _ => hs j) k, hs k]
theorem zput_at : ∀ (is : List Nat) (w1 ws : va_W) (k : Nat) (q : Nat × va_E), (zput ws is w1)[k]? = some q → (k ∉ is ∧ ws[k]? = some q) ∨ q ∈ w1 ∨ (k ∈ is.drop w1.length ∧ ws[k]? = some q) := by
  intro is
  induction is with
  | nil => intro w1 ws k q h; left; exact ⟨List.not_mem_nil, by cases w1 <;> exact h⟩
  | cons i is ih =>
    intro w1 ws k q h
    cases w1 with
    | nil =>
      by_cases hk : k ∈ i :: is
      · right; right; exact ⟨by simpa using hk, h⟩
      · left; exact ⟨hk, h⟩
    | cons q1 w1 =>
      rcases ih w1 (ws.set i q1) k q h with ⟨h1, h2⟩ | h1 | ⟨h1, h2⟩
      · by_cases hj : i = k
        · subst hj
          by_cases hl : i < ws.length
          · rw [List.getElem?_set_self hl] at h2
            right; left
            rw [← Option.some.inj h2]; exact List.mem_cons_self
          · rw [List.getElem?_eq_none (by rw [List.length_set]; omega)] at h2; cases h2
        · rw [List.getElem?_set_ne hj] at h2
          left
          exact ⟨fun hm => by rcases List.mem_cons.mp hm with e | e; exact hj e.symm; exact h1 e, h2⟩
      · right; left; exact List.mem_cons_of_mem _ h1
      · by_cases hj : i = k
        · subst hj
          by_cases hl : i < ws.length
          · rw [List.getElem?_set_self hl] at h2
            right; left
            rw [← Option.some.inj h2]; exact List.mem_cons_self
          · rw [List.getElem?_eq_none (by rw [List.length_set]; omega)] at h2; cases h2
        · rw [List.getElem?_set_ne hj] at h2
          right; right; exact ⟨h1, h2⟩
theorem zD_fst {A : Nat → Prop} {ws ws' : va_W} (hD : va_D A ws) (h : ∀ k : Nat, (ws'[k]?).map Prod.fst = (ws[k]?).map Prod.fst) : va_D A ws' := by
  have g : ∀ (k : Nat) (q : Nat × va_E), ws'[k]? = some q → ∃ q0, ws[k]? = some q0 ∧ q0.1 = q.1 := by
    intro k q hq
    have := h k
    rw [hq] at this
    cases hk : ws[k]? with
    | none => rw [hk] at this; cases this
    | some q0 => rw [hk] at this; exact ⟨q0, rfl, (Option.some.inj this).symm⟩
  refine ⟨fun i j x y hx hy hxy => ?_, fun k q hq => ?_⟩
  · obtain ⟨x0, a1, a2⟩ := g i x hx
    obtain ⟨y0, b1, b2⟩ := g j y hy
    exact hD.1 i j x0 y0 a1 b1 (by rw [a2, b2]; exact hxy)
  · obtain ⟨q0, a1, a2⟩ := g k q hq
    rw [← a2]; exact hD.2 k q0 a1
section ZG
variable {p : Program} {l : Launch} {e : Env} {R : Room} {s : State} {m : MethodId} {args : Array Value} {below : List Frame} {meth : Method} {c : Code} {D : va_G} {A : Nat → Prop} {X : Heap → List Loc → Prop} {nL cells slots : Nat} {Q : State → Prop} {pc : Nat} {ls : List (Nat × Value)} {st : List Value} {ws : va_W} {cc : ByteArray} {own : String} {Ts : List Cond} {cI cO : ClassId}
theorem zR_of {y : MethodName} {wsy wsy' : List Cond} {rm : Room} {av : List Value} {w0 : va_W} {v : Option Value} {ret : Option FieldType} (hcls : plainName y.cls = true) (hw : wsy = Cond.code y cc nL ret :: wsy') (hn : (lg_sl av).length ≤ nL) {lv : List (Nat × Value)} (hlv : lv_args 0 av = lv)
    (body : ∀ (p : Program) (e : Env) (s : State) (m : MethodId) (args : Array Value) (below : List Frame) (meth : Method) (c : Code), zC p s m args c cc nL y.cls wsy D cI cO → meth.sig.returnType = ret → meth.locks = false → zG p l e rm s m args below meth c D (fun _ => True) (zXr s) nL 0 0 (MQ below (zQr v) args s 0 0 (fun _ => False)) 0 lv [] w0) : zR l y wsy rm D cI cO av w0 v := by
  subst hlv
  refine Met.ofW (cc := cc) (maxL := nL) (ret := ret) hcls hw ?_
  intro p e s m args below meth c s₁ B hml hv
  obtain ⟨rfl, hP, hK, hD⟩ := hv
  have h := body p e s m _ below meth c ⟨B.exec, B.bytes, hml, findClass_of_methodNamed B.named, atoms_spec (ws := wsy) B.pre, hK⟩ B.returns B.notSynchronized s.heap [] _ hP hD ⟨rfl, rfl⟩ (lv_entry av hn)
  rw [lg_entry_eq]
  exact h
theorem zW_of {y : MethodName} {wsy wsy' : List Cond} {rm : Room} {av : List Value} {w0 w1 : va_W} {v : Option Value} {ret : Option FieldType} (hcls : plainName y.cls = true) (hw : wsy = Cond.code y cc nL ret :: wsy') (hn : (lg_sl av).length ≤ nL) {lv : List (Nat × Value)} (hlv : lv_args 0 av = lv)
    (body : ∀ (p : Program) (e : Env) (s : State) (m : MethodId) (args : Array Value) (below : List Frame) (meth : Method) (c : Code), zC p s m args c cc nL y.cls wsy D cI cO → meth.sig.returnType = ret → meth.locks = false → zG p l e rm s m args below meth c D (zA w0) (zXw (zA w0) s.heap) nL 0 0 (MQ below (zQw D w1 (zA w0) v) args s 0 0 (zA w0)) 0 lv [] w0) : zW l y wsy rm D cI cO av w0 w1 v := by
  subst hlv
  refine Met.ofW (cc := cc) (maxL := nL) (ret := ret) hcls hw ?_
  intro p e s m args below meth c s₁ B hml hv
  obtain ⟨rfl, hP, hK, hD⟩ := hv
  have h := body p e s m _ below meth c ⟨B.exec, B.bytes, hml, findClass_of_methodNamed B.named, atoms_spec (ws := wsy) B.pre, hK⟩ B.returns B.notSynchronized s.heap [] _ hP (hD.weaken (fun k q hk _ => ⟨k, q.2, hk⟩)) va_S.rf (lv_entry av hn)
  rw [lg_entry_eq]
  exact h

theorem z_iconst (C : zC p s m args c cc nL own Ts D cI cO) {n : Int} {v : Int32} (hdg : decode cc pc = .ok (.iconst n, 1)) (hv : Int32.ofInt n = v)
    (kk : zG p l e R s m args below meth c D A X nL cells slots Q (pc + 1) ls (.int v :: st) ws) : zG p l e R s m args below meth c D A X nL cells slots Q pc ls st ws := fun H locs la hP hD hX hl => lv_iconst C.1 C.2.1 hdg hv (kk H locs la hP hD hX hl)
theorem z_bipush (C : zC p s m args c cc nL own Ts D cI cO) {n : Int} {v : Int32} (hdg : decode cc pc = .ok (.bipush n, 2)) (hv : (Int8.ofInt n).toInt32 = v)
    (kk : zG p l e R s m args below meth c D A X nL cells slots Q (pc + 2) ls (.int v :: st) ws) : zG p l e R s m args below meth c D A X nL cells slots Q pc ls st ws := fun H locs la hP hD hX hl => lv_bipush C.1 C.2.1 hdg hv (kk H locs la hP hD hX hl)
theorem z_sipush (C : zC p s m args c cc nL own Ts D cI cO) {n : Int} {v : Int32} (hdg : decode cc pc = .ok (.sipush n, 3)) (hv : (Int16.ofInt n).toInt32 = v)
    (kk : zG p l e R s m args below meth c D A X nL cells slots Q (pc + 3) ls (.int v :: st) ws) : zG p l e R s m args below meth c D A X nL cells slots Q pc ls st ws := fun H locs la hP hD hX hl => lv_sipush C.1 C.2.1 hdg hv (kk H locs la hP hD hX hl)
theorem z_lconst (C : zC p s m args c cc nL own Ts D cI cO) {n : Fin 2} {v : Int64} (hdg : decode cc pc = .ok (.lconst n, 1)) (hv : Int64.ofNat (n : Nat) = v)
    (kk : zG p l e R s m args below meth c D A X nL cells slots Q (pc + 1) ls (.long v :: st) ws) : zG p l e R s m args below meth c D A X nL cells slots Q pc ls st ws := fun H locs la hP hD hX hl => lv_lconst C.1 C.2.1 hdg hv (kk H locs la hP hD hX hl)
theorem z_ldc2 (C : zC p s m args c cc nL own Ts D cI cO) {index : Nat} {v : Int64} (hw : Jvm.Cond.constantLong own index v ∈ Ts) (hdg : decode cc pc = .ok (.ldc2_w index, 3))
    (kk : zG p l e R s m args below meth c D A X nL cells slots Q (pc + 3) ls (.long v :: st) ws) : zG p l e R s m args below meth c D A X nL cells slots Q pc ls st ws := fun H locs la hP hD hX hl => lv_ldc2 C.1 C.2.1 C.2.2.2.1 (C.2.2.2.2.1 _ hw) hdg (kk H locs la hP hD hX hl)
theorem z_iload_n (C : zC p s m args c cc nL own Ts D cI cO) {k : Fin 4} {i : Nat} {x : Int32} (hdg : decode cc pc = .ok (.iload_n k, 1)) (hi : (k : Nat) = i) (j : Nat) (hj : ls[j]? = some (i, .int x))
    (kk : zG p l e R s m args below meth c D A X nL cells slots Q (pc + 1) ls (.int x :: st) ws) : zG p l e R s m args below meth c D A X nL cells slots Q pc ls st ws := fun H locs la hP hD hX hl => lv_iload_n C.1 C.2.1 hdg hi (lv_at hl j hj) (kk H locs la hP hD hX hl)
theorem z_iload (C : zC p s m args c cc nL own Ts D cI cO) {i : Nat} {x : Int32} (hdg : decode cc pc = .ok (.iload i, 2)) (j : Nat) (hj : ls[j]? = some (i, .int x))
    (kk : zG p l e R s m args below meth c D A X nL cells slots Q (pc + 2) ls (.int x :: st) ws) : zG p l e R s m args below meth c D A X nL cells slots Q pc ls st ws := fun H locs la hP hD hX hl => lv_iload C.1 C.2.1 hdg (lv_at hl j hj) (kk H locs la hP hD hX hl)
theorem z_lload_n (C : zC p s m args c cc nL own Ts D cI cO) {k : Fin 4} {i : Nat} {x : Int64} (hdg : decode cc pc = .ok (.lload_n k, 1)) (hi : (k : Nat) = i) (j : Nat) (hj : ls[j]? = some (i, .long x))
    (kk : zG p l e R s m args below meth c D A X nL cells slots Q (pc + 1) ls (.long x :: st) ws) : zG p l e R s m args below meth c D A X nL cells slots Q pc ls st ws := fun H locs la hP hD hX hl => lv_lload_n C.1 C.2.1 hdg hi (lv_at hl j hj) (kk H locs la hP hD hX hl)
theorem z_lload (C : zC p s m args c cc nL own Ts D cI cO) {i : Nat} {x : Int64} (hdg : decode cc pc = .ok (.lload i, 2)) (j : Nat) (hj : ls[j]? = some (i, .long x))
    (kk : zG p l e R s m args below meth c D A X nL cells slots Q (pc + 2) ls (.long x :: st) ws) : zG p l e R s m args below meth c D A X nL cells slots Q pc ls st ws := fun H locs la hP hD hX hl => lv_lload C.1 C.2.1 hdg (lv_at hl j hj) (kk H locs la hP hD hX hl)
theorem z_aload_n (C : zC p s m args c cc nL own Ts D cI cO) {k : Fin 4} {i : Nat} {x : Nat} (hdg : decode cc pc = .ok (.aload_n k, 1)) (hi : (k : Nat) = i) (j : Nat) (hj : ls[j]? = some (i, .ref x))
    (kk : zG p l e R s m args below meth c D A X nL cells slots Q (pc + 1) ls (.ref x :: st) ws) : zG p l e R s m args below meth c D A X nL cells slots Q pc ls st ws := fun H locs la hP hD hX hl => lv_aload_n C.1 C.2.1 hdg hi (lv_at hl j hj) (kk H locs la hP hD hX hl)
theorem z_aload (C : zC p s m args c cc nL own Ts D cI cO) {i : Nat} {x : Nat} (hdg : decode cc pc = .ok (.aload i, 2)) (j : Nat) (hj : ls[j]? = some (i, .ref x))
    (kk : zG p l e R s m args below meth c D A X nL cells slots Q (pc + 2) ls (.ref x :: st) ws) : zG p l e R s m args below meth c D A X nL cells slots Q pc ls st ws := fun H locs la hP hD hX hl => lv_aload C.1 C.2.1 hdg (lv_at hl j hj) (kk H locs la hP hD hX hl)
theorem z_istore_n (C : zC p s m args c cc nL own Ts D cI cO) {k : Fin 4} {i : Nat} {x : Int32} (lv : List (Nat × Value)) (hdg : decode cc pc = .ok (.istore_n k, 1)) (hi : (k : Nat) = i) (hn : i < nL) (ks : List Nat) (hk : lv_pick ((i, Value.int x) :: ls.filter (fun q => !(q.1 == i) && !(q.1 + 1 == i && q.2.category == 2))) ks = lv)
    (kk : zG p l e R s m args below meth c D A X nL cells slots Q (pc + 1) lv st ws) : zG p l e R s m args below meth c D A X nL cells slots Q pc ls (.int x :: st) ws := fun H locs la hP hD hX hl => lv_istore_n C.1 C.2.1 hdg hi hl hn rfl (fun la2 hl2 => kk H locs la2 hP hD hX (lv_sub hl2 ks hk))
theorem z_istore (C : zC p s m args c cc nL own Ts D cI cO) {i : Nat} {x : Int32} (lv : List (Nat × Value)) (hdg : decode cc pc = .ok (.istore i, 2)) (hn : i < nL) (ks : List Nat) (hk : lv_pick ((i, Value.int x) :: ls.filter (fun q => !(q.1 == i) && !(q.1 + 1 == i && q.2.category == 2))) ks = lv)
    (kk : zG p l e R s m args below meth c D A X nL cells slots Q (pc + 2) lv st ws) : zG p l e R s m args below meth c D A X nL cells slots Q pc ls (.int x :: st) ws := fun H locs la hP hD hX hl => lv_istore C.1 C.2.1 hdg hl hn rfl (fun la2 hl2 => kk H locs la2 hP hD hX (lv_sub hl2 ks hk))
theorem z_lstore_n (C : zC p s m args c cc nL own Ts D cI cO) {k : Fin 4} {i : Nat} {x : Int64} (lv : List (Nat × Value)) (hdg : decode cc pc = .ok (.lstore_n k, 1)) (hi : (k : Nat) = i) (hn : i + 1 < nL) (ks : List Nat) (hk : lv_pick ((i, Value.long x) :: ls.filter (fun q => !(q.1 == i) && (!(q.1 == i + 1) && !(q.1 + 1 == i && q.2.category == 2)))) ks = lv)
    (kk : zG p l e R s m args below meth c D A X nL cells slots Q (pc + 1) lv st ws) : zG p l e R s m args below meth c D A X nL cells slots Q pc ls (.long x :: st) ws := fun H locs la hP hD hX hl => lv_lstore_n C.1 C.2.1 hdg hi hl hn rfl (fun la2 hl2 => kk H locs la2 hP hD hX (lv_sub hl2 ks hk))
theorem z_lstore (C : zC p s m args c cc nL own Ts D cI cO) {i : Nat} {x : Int64} (lv : List (Nat × Value)) (hdg : decode cc pc = .ok (.lstore i, 2)) (hn : i + 1 < nL) (ks : List Nat) (hk : lv_pick ((i, Value.long x) :: ls.filter (fun q => !(q.1 == i) && (!(q.1 == i + 1) && !(q.1 + 1 == i && q.2.category == 2)))) ks = lv)
    (kk : zG p l e R s m args below meth c D A X nL cells slots Q (pc + 2) lv st ws) : zG p l e R s m args below meth c D A X nL cells slots Q pc ls (.long x :: st) ws := fun H locs la hP hD hX hl => lv_lstore C.1 C.2.1 hdg hl hn rfl (fun la2 hl2 => kk H locs la2 hP hD hX (lv_sub hl2 ks hk))
theorem z_astore_n (C : zC p s m args c cc nL own Ts D cI cO) {k : Fin 4} {i : Nat} {x : Nat} (lv : List (Nat × Value)) (hdg : decode cc pc = .ok (.astore_n k, 1)) (hi : (k : Nat) = i) (hn : i < nL) (ks : List Nat) (hk : lv_pick ((i, Value.ref x) :: ls.filter (fun q => !(q.1 == i) && !(q.1 + 1 == i && q.2.category == 2))) ks = lv)
    (kk : zG p l e R s m args below meth c D A X nL cells slots Q (pc + 1) lv st ws) : zG p l e R s m args below meth c D A X nL cells slots Q pc ls (.ref x :: st) ws := fun H locs la hP hD hX hl => lv_astore_n C.1 C.2.1 hdg hi hl hn rfl (fun la2 hl2 => kk H locs la2 hP hD hX (lv_sub hl2 ks hk))
theorem z_astore (C : zC p s m args c cc nL own Ts D cI cO) {i : Nat} {x : Nat} (lv : List (Nat × Value)) (hdg : decode cc pc = .ok (.astore i, 2)) (hn : i < nL) (ks : List Nat) (hk : lv_pick ((i, Value.ref x) :: ls.filter (fun q => !(q.1 == i) && !(q.1 + 1 == i && q.2.category == 2))) ks = lv)
    (kk : zG p l e R s m args below meth c D A X nL cells slots Q (pc + 2) lv st ws) : zG p l e R s m args below meth c D A X nL cells slots Q pc ls (.ref x :: st) ws := fun H locs la hP hD hX hl => lv_astore C.1 C.2.1 hdg hl hn rfl (fun la2 hl2 => kk H locs la2 hP hD hX (lv_sub hl2 ks hk))
theorem z_iinc (C : zC p s m args c cc nL own Ts D cI cO) {i : Nat} {n : Int} {x v : Int32} (lv : List (Nat × Value)) (hdg : decode cc pc = .ok (.iinc i n, 3)) (k : Nat) (hj : ls[k]? = some (i, .int x)) (hv : x + Int32.ofInt n = v) (hn : i < nL) (ks : List Nat) (hk : lv_pick ((i, Value.int v) :: ls.filter (fun q => !(q.1 == i) && !(q.1 + 1 == i && q.2.category == 2))) ks = lv)
    (kk : zG p l e R s m args below meth c D A X nL cells slots Q (pc + 3) lv st ws) : zG p l e R s m args below meth c D A X nL cells slots Q pc ls st ws := fun H locs la hP hD hX hl => lv_iinc C.1 C.2.1 hdg hl hj hv hn rfl (fun la2 hl2 => kk H locs la2 hP hD hX (lv_sub hl2 ks hk))
theorem z_iadd (C : zC p s m args c cc nL own Ts D cI cO) {x y : Int32} (hdg : decode cc pc = .ok (.iadd, 1))
    (kk : zG p l e R s m args below meth c D A X nL cells slots Q (pc + 1) ls (.int (x + y) :: st) ws) : zG p l e R s m args below meth c D A X nL cells slots Q pc ls (.int y :: .int x :: st) ws := fun H locs la hP hD hX hl => lv_iadd C.1 C.2.1 hdg (kk H locs la hP hD hX hl)
theorem z_isub (C : zC p s m args c cc nL own Ts D cI cO) {x y : Int32} (hdg : decode cc pc = .ok (.isub, 1))
    (kk : zG p l e R s m args below meth c D A X nL cells slots Q (pc + 1) ls (.int (x - y) :: st) ws) : zG p l e R s m args below meth c D A X nL cells slots Q pc ls (.int y :: .int x :: st) ws := fun H locs la hP hD hX hl => lv_isub C.1 C.2.1 hdg (kk H locs la hP hD hX hl)
theorem z_imul (C : zC p s m args c cc nL own Ts D cI cO) {x y : Int32} (hdg : decode cc pc = .ok (.imul, 1))
    (kk : zG p l e R s m args below meth c D A X nL cells slots Q (pc + 1) ls (.int (x * y) :: st) ws) : zG p l e R s m args below meth c D A X nL cells slots Q pc ls (.int y :: .int x :: st) ws := fun H locs la hP hD hX hl => lv_imul C.1 C.2.1 hdg (kk H locs la hP hD hX hl)
theorem z_iand (C : zC p s m args c cc nL own Ts D cI cO) {x y : Int32} (hdg : decode cc pc = .ok (.iand, 1))
    (kk : zG p l e R s m args below meth c D A X nL cells slots Q (pc + 1) ls (.int (x &&& y) :: st) ws) : zG p l e R s m args below meth c D A X nL cells slots Q pc ls (.int y :: .int x :: st) ws := fun H locs la hP hD hX hl => lv_iand C.1 C.2.1 hdg (kk H locs la hP hD hX hl)
theorem z_ior (C : zC p s m args c cc nL own Ts D cI cO) {x y : Int32} (hdg : decode cc pc = .ok (.ior, 1))
    (kk : zG p l e R s m args below meth c D A X nL cells slots Q (pc + 1) ls (.int (x ||| y) :: st) ws) : zG p l e R s m args below meth c D A X nL cells slots Q pc ls (.int y :: .int x :: st) ws := fun H locs la hP hD hX hl => lv_ior C.1 C.2.1 hdg (kk H locs la hP hD hX hl)
theorem z_ixor (C : zC p s m args c cc nL own Ts D cI cO) {x y : Int32} (hdg : decode cc pc = .ok (.ixor, 1))
    (kk : zG p l e R s m args below meth c D A X nL cells slots Q (pc + 1) ls (.int (x ^^^ y) :: st) ws) : zG p l e R s m args below meth c D A X nL cells slots Q pc ls (.int y :: .int x :: st) ws := fun H locs la hP hD hX hl => lv_ixor C.1 C.2.1 hdg (kk H locs la hP hD hX hl)
theorem z_ishl (C : zC p s m args c cc nL own Ts D cI cO) {x y : Int32} (hdg : decode cc pc = .ok (.ishl, 1))
    (kk : zG p l e R s m args below meth c D A X nL cells slots Q (pc + 1) ls (.int (x <<< (y &&& 31)) :: st) ws) : zG p l e R s m args below meth c D A X nL cells slots Q pc ls (.int y :: .int x :: st) ws := fun H locs la hP hD hX hl => lv_ishl C.1 C.2.1 hdg (kk H locs la hP hD hX hl)
theorem z_ishr (C : zC p s m args c cc nL own Ts D cI cO) {x y : Int32} (hdg : decode cc pc = .ok (.ishr, 1))
    (kk : zG p l e R s m args below meth c D A X nL cells slots Q (pc + 1) ls (.int (x >>> (y &&& 31)) :: st) ws) : zG p l e R s m args below meth c D A X nL cells slots Q pc ls (.int y :: .int x :: st) ws := fun H locs la hP hD hX hl => lv_ishr C.1 C.2.1 hdg (kk H locs la hP hD hX hl)
theorem z_idiv (C : zC p s m args c cc nL own Ts D cI cO) {x y : Int32} (hdg : decode cc pc = .ok (.idiv, 1)) (hne : ¬ y = 0)
    (kk : zG p l e R s m args below meth c D A X nL cells slots Q (pc + 1) ls (.int (x / y) :: st) ws) : zG p l e R s m args below meth c D A X nL cells slots Q pc ls (.int y :: .int x :: st) ws := fun H locs la hP hD hX hl => lv_idiv C.1 C.2.1 hdg hne (kk H locs la hP hD hX hl)
theorem z_irem (C : zC p s m args c cc nL own Ts D cI cO) {x y : Int32} (hdg : decode cc pc = .ok (.irem, 1)) (hne : ¬ y = 0)
    (kk : zG p l e R s m args below meth c D A X nL cells slots Q (pc + 1) ls (.int (x - x / y * y) :: st) ws) : zG p l e R s m args below meth c D A X nL cells slots Q pc ls (.int y :: .int x :: st) ws := fun H locs la hP hD hX hl => lv_irem C.1 C.2.1 hdg hne (kk H locs la hP hD hX hl)
theorem z_ladd (C : zC p s m args c cc nL own Ts D cI cO) {x y : Int64} (hdg : decode cc pc = .ok (.ladd, 1))
    (kk : zG p l e R s m args below meth c D A X nL cells slots Q (pc + 1) ls (.long (x + y) :: st) ws) : zG p l e R s m args below meth c D A X nL cells slots Q pc ls (.long y :: .long x :: st) ws := fun H locs la hP hD hX hl => lv_ladd C.1 C.2.1 hdg (kk H locs la hP hD hX hl)
theorem z_lsub (C : zC p s m args c cc nL own Ts D cI cO) {x y : Int64} (hdg : decode cc pc = .ok (.lsub, 1))
    (kk : zG p l e R s m args below meth c D A X nL cells slots Q (pc + 1) ls (.long (x - y) :: st) ws) : zG p l e R s m args below meth c D A X nL cells slots Q pc ls (.long y :: .long x :: st) ws := fun H locs la hP hD hX hl => lv_lsub C.1 C.2.1 hdg (kk H locs la hP hD hX hl)
theorem z_lmul (C : zC p s m args c cc nL own Ts D cI cO) {x y : Int64} (hdg : decode cc pc = .ok (.lmul, 1))
    (kk : zG p l e R s m args below meth c D A X nL cells slots Q (pc + 1) ls (.long (x * y) :: st) ws) : zG p l e R s m args below meth c D A X nL cells slots Q pc ls (.long y :: .long x :: st) ws := fun H locs la hP hD hX hl => lv_lmul C.1 C.2.1 hdg (kk H locs la hP hD hX hl)
theorem z_ldiv (C : zC p s m args c cc nL own Ts D cI cO) {x y : Int64} (hdg : decode cc pc = .ok (.ldiv, 1)) (hne : ¬ y = 0)
    (kk : zG p l e R s m args below meth c D A X nL cells slots Q (pc + 1) ls (.long (x / y) :: st) ws) : zG p l e R s m args below meth c D A X nL cells slots Q pc ls (.long y :: .long x :: st) ws := fun H locs la hP hD hX hl => lv_ldiv C.1 C.2.1 hdg hne (kk H locs la hP hD hX hl)
theorem z_lrem (C : zC p s m args c cc nL own Ts D cI cO) {x y : Int64} (hdg : decode cc pc = .ok (.lrem, 1)) (hne : ¬ y = 0)
    (kk : zG p l e R s m args below meth c D A X nL cells slots Q (pc + 1) ls (.long (x - x / y * y) :: st) ws) : zG p l e R s m args below meth c D A X nL cells slots Q pc ls (.long y :: .long x :: st) ws := fun H locs la hP hD hX hl => lv_lrem C.1 C.2.1 hdg hne (kk H locs la hP hD hX hl)
theorem z_lcmp (C : zC p s m args c cc nL own Ts D cI cO) {x y : Int64} (hdg : decode cc pc = .ok (.lcmp, 1))
    (kk : zG p l e R s m args below meth c D A X nL cells slots Q (pc + 1) ls (.int (lg_cmp x y) :: st) ws) : zG p l e R s m args below meth c D A X nL cells slots Q pc ls (.long y :: .long x :: st) ws := fun H locs la hP hD hX hl => W.lcmp C.1 C.2.1 hdg (kk H locs la hP hD hX hl)
theorem z_i2l (C : zC p s m args c cc nL own Ts D cI cO) {x : Int32} (hdg : decode cc pc = .ok (.i2l, 1))
    (kk : zG p l e R s m args below meth c D A X nL cells slots Q (pc + 1) ls (.long x.toInt64 :: st) ws) : zG p l e R s m args below meth c D A X nL cells slots Q pc ls (.int x :: st) ws := fun H locs la hP hD hX hl => lv_i2l C.1 C.2.1 hdg rfl (kk H locs la hP hD hX hl)
theorem z_i2b (C : zC p s m args c cc nL own Ts D cI cO) {x : Int32} (hdg : decode cc pc = .ok (.i2b, 1))
    (kk : zG p l e R s m args below meth c D A X nL cells slots Q (pc + 1) ls (.int x.toInt8.toInt32 :: st) ws) : zG p l e R s m args below meth c D A X nL cells slots Q pc ls (.int x :: st) ws := fun H locs la hP hD hX hl => lv_i2b C.1 C.2.1 hdg rfl (kk H locs la hP hD hX hl)
theorem z_i2s (C : zC p s m args c cc nL own Ts D cI cO) {x : Int32} (hdg : decode cc pc = .ok (.i2s, 1))
    (kk : zG p l e R s m args below meth c D A X nL cells slots Q (pc + 1) ls (.int x.toInt16.toInt32 :: st) ws) : zG p l e R s m args below meth c D A X nL cells slots Q pc ls (.int x :: st) ws := fun H locs la hP hD hX hl => lv_i2s C.1 C.2.1 hdg rfl (kk H locs la hP hD hX hl)
theorem z_dup (C : zC p s m args c cc nL own Ts D cI cO) {x : Value} (hdg : decode cc pc = .ok (.dup, 1)) (hc : x.category = 1)
    (kk : zG p l e R s m args below meth c D A X nL cells slots Q (pc + 1) ls (x :: x :: st) ws) : zG p l e R s m args below meth c D A X nL cells slots Q pc ls (x :: st) ws := fun H locs la hP hD hX hl => lv_dup C.1 C.2.1 hdg hc (kk H locs la hP hD hX hl)
theorem z_pop (C : zC p s m args c cc nL own Ts D cI cO) {x : Value} (hdg : decode cc pc = .ok (.pop, 1)) (hc : x.category = 1)
    (kk : zG p l e R s m args below meth c D A X nL cells slots Q (pc + 1) ls st ws) : zG p l e R s m args below meth c D A X nL cells slots Q pc ls (x :: st) ws := fun H locs la hP hD hX hl => lv_pop C.1 C.2.1 hdg hc (kk H locs la hP hD hX hl)
theorem z_dup2 (C : zC p s m args c cc nL own Ts D cI cO) {x y : Value} (hdg : decode cc pc = .ok (.dup2, 1)) (hc : x.category = 1) (hc2 : y.category = 1)
    (kk : zG p l e R s m args below meth c D A X nL cells slots Q (pc + 1) ls (x :: y :: x :: y :: st) ws) : zG p l e R s m args below meth c D A X nL cells slots Q pc ls (x :: y :: st) ws := fun H locs la hP hD hX hl => lv_dup2_11 C.1 C.2.1 hdg hc hc2 (kk H locs la hP hD hX hl)
theorem z_if_eq (C : zC p s m args c cc nL own Ts D cI cO) {x : Int32} {off : Int} {tgt : Nat} (hdg : decode cc pc = .ok (.ifCond .eq off, 3)) (ht : (pc : Int) + off = (tgt : Int))
    (kt : x = 0 → zG p l e R s m args below meth c D A X nL cells slots Q tgt ls st ws) (kf : ¬ x = 0 → zG p l e R s m args below meth c D A X nL cells slots Q (pc + 3) ls st ws) : zG p l e R s m args below meth c D A X nL cells slots Q pc ls (.int x :: st) ws := fun H locs la hP hD hX hl => lv_if_eq C.1 C.2.1 hdg ht (fun h => kt h H locs la hP hD hX hl) (fun h => kf h H locs la hP hD hX hl)
theorem z_if_ne (C : zC p s m args c cc nL own Ts D cI cO) {x : Int32} {off : Int} {tgt : Nat} (hdg : decode cc pc = .ok (.ifCond .ne off, 3)) (ht : (pc : Int) + off = (tgt : Int))
    (kt : ¬ x = 0 → zG p l e R s m args below meth c D A X nL cells slots Q tgt ls st ws) (kf : x = 0 → zG p l e R s m args below meth c D A X nL cells slots Q (pc + 3) ls st ws) : zG p l e R s m args below meth c D A X nL cells slots Q pc ls (.int x :: st) ws := fun H locs la hP hD hX hl => lv_if_ne C.1 C.2.1 hdg ht (fun h => kt h H locs la hP hD hX hl) (fun h => kf h H locs la hP hD hX hl)
theorem z_if_lt (C : zC p s m args c cc nL own Ts D cI cO) {x : Int32} {off : Int} {tgt : Nat} (hdg : decode cc pc = .ok (.ifCond .lt off, 3)) (ht : (pc : Int) + off = (tgt : Int))
    (kt : x < 0 → zG p l e R s m args below meth c D A X nL cells slots Q tgt ls st ws) (kf : ¬ x < 0 → zG p l e R s m args below meth c D A X nL cells slots Q (pc + 3) ls st ws) : zG p l e R s m args below meth c D A X nL cells slots Q pc ls (.int x :: st) ws := fun H locs la hP hD hX hl => lv_if_lt C.1 C.2.1 hdg ht (fun h => kt h H locs la hP hD hX hl) (fun h => kf h H locs la hP hD hX hl)
theorem z_if_ge (C : zC p s m args c cc nL own Ts D cI cO) {x : Int32} {off : Int} {tgt : Nat} (hdg : decode cc pc = .ok (.ifCond .ge off, 3)) (ht : (pc : Int) + off = (tgt : Int))
    (kt : 0 ≤ x → zG p l e R s m args below meth c D A X nL cells slots Q tgt ls st ws) (kf : ¬ 0 ≤ x → zG p l e R s m args below meth c D A X nL cells slots Q (pc + 3) ls st ws) : zG p l e R s m args below meth c D A X nL cells slots Q pc ls (.int x :: st) ws := fun H locs la hP hD hX hl => lv_if_ge C.1 C.2.1 hdg ht (fun h => kt h H locs la hP hD hX hl) (fun h => kf h H locs la hP hD hX hl)
theorem z_if_gt (C : zC p s m args c cc nL own Ts D cI cO) {x : Int32} {off : Int} {tgt : Nat} (hdg : decode cc pc = .ok (.ifCond .gt off, 3)) (ht : (pc : Int) + off = (tgt : Int))
    (kt : 0 < x → zG p l e R s m args below meth c D A X nL cells slots Q tgt ls st ws) (kf : ¬ 0 < x → zG p l e R s m args below meth c D A X nL cells slots Q (pc + 3) ls st ws) : zG p l e R s m args below meth c D A X nL cells slots Q pc ls (.int x :: st) ws := fun H locs la hP hD hX hl => lv_if_gt C.1 C.2.1 hdg ht (fun h => kt h H locs la hP hD hX hl) (fun h => kf h H locs la hP hD hX hl)
theorem z_if_le (C : zC p s m args c cc nL own Ts D cI cO) {x : Int32} {off : Int} {tgt : Nat} (hdg : decode cc pc = .ok (.ifCond .le off, 3)) (ht : (pc : Int) + off = (tgt : Int))
    (kt : x ≤ 0 → zG p l e R s m args below meth c D A X nL cells slots Q tgt ls st ws) (kf : ¬ x ≤ 0 → zG p l e R s m args below meth c D A X nL cells slots Q (pc + 3) ls st ws) : zG p l e R s m args below meth c D A X nL cells slots Q pc ls (.int x :: st) ws := fun H locs la hP hD hX hl => lv_if_le C.1 C.2.1 hdg ht (fun h => kt h H locs la hP hD hX hl) (fun h => kf h H locs la hP hD hX hl)
theorem z_icmp_eq (C : zC p s m args c cc nL own Ts D cI cO) {x y : Int32} {off : Int} {tgt : Nat} (hdg : decode cc pc = .ok (.if_icmp .eq off, 3)) (ht : (pc : Int) + off = (tgt : Int))
    (kt : x = y → zG p l e R s m args below meth c D A X nL cells slots Q tgt ls st ws) (kf : ¬ x = y → zG p l e R s m args below meth c D A X nL cells slots Q (pc + 3) ls st ws) : zG p l e R s m args below meth c D A X nL cells slots Q pc ls (.int y :: .int x :: st) ws := fun H locs la hP hD hX hl => lv_icmp_eq C.1 C.2.1 hdg ht (fun h => kt h H locs la hP hD hX hl) (fun h => kf h H locs la hP hD hX hl)
theorem z_icmp_ne (C : zC p s m args c cc nL own Ts D cI cO) {x y : Int32} {off : Int} {tgt : Nat} (hdg : decode cc pc = .ok (.if_icmp .ne off, 3)) (ht : (pc : Int) + off = (tgt : Int))
    (kt : ¬ x = y → zG p l e R s m args below meth c D A X nL cells slots Q tgt ls st ws) (kf : x = y → zG p l e R s m args below meth c D A X nL cells slots Q (pc + 3) ls st ws) : zG p l e R s m args below meth c D A X nL cells slots Q pc ls (.int y :: .int x :: st) ws := fun H locs la hP hD hX hl => lv_icmp_ne C.1 C.2.1 hdg ht (fun h => kt h H locs la hP hD hX hl) (fun h => kf h H locs la hP hD hX hl)
theorem z_icmp_lt (C : zC p s m args c cc nL own Ts D cI cO) {x y : Int32} {off : Int} {tgt : Nat} (hdg : decode cc pc = .ok (.if_icmp .lt off, 3)) (ht : (pc : Int) + off = (tgt : Int))
    (kt : x < y → zG p l e R s m args below meth c D A X nL cells slots Q tgt ls st ws) (kf : ¬ x < y → zG p l e R s m args below meth c D A X nL cells slots Q (pc + 3) ls st ws) : zG p l e R s m args below meth c D A X nL cells slots Q pc ls (.int y :: .int x :: st) ws := fun H locs la hP hD hX hl => lv_icmp_lt C.1 C.2.1 hdg ht (fun h => kt h H locs la hP hD hX hl) (fun h => kf h H locs la hP hD hX hl)
theorem z_icmp_ge (C : zC p s m args c cc nL own Ts D cI cO) {x y : Int32} {off : Int} {tgt : Nat} (hdg : decode cc pc = .ok (.if_icmp .ge off, 3)) (ht : (pc : Int) + off = (tgt : Int))
    (kt : y ≤ x → zG p l e R s m args below meth c D A X nL cells slots Q tgt ls st ws) (kf : ¬ y ≤ x → zG p l e R s m args below meth c D A X nL cells slots Q (pc + 3) ls st ws) : zG p l e R s m args below meth c D A X nL cells slots Q pc ls (.int y :: .int x :: st) ws := fun H locs la hP hD hX hl => lv_icmp_ge C.1 C.2.1 hdg ht (fun h => kt h H locs la hP hD hX hl) (fun h => kf h H locs la hP hD hX hl)
theorem z_icmp_gt (C : zC p s m args c cc nL own Ts D cI cO) {x y : Int32} {off : Int} {tgt : Nat} (hdg : decode cc pc = .ok (.if_icmp .gt off, 3)) (ht : (pc : Int) + off = (tgt : Int))
    (kt : y < x → zG p l e R s m args below meth c D A X nL cells slots Q tgt ls st ws) (kf : ¬ y < x → zG p l e R s m args below meth c D A X nL cells slots Q (pc + 3) ls st ws) : zG p l e R s m args below meth c D A X nL cells slots Q pc ls (.int y :: .int x :: st) ws := fun H locs la hP hD hX hl => lv_icmp_gt C.1 C.2.1 hdg ht (fun h => kt h H locs la hP hD hX hl) (fun h => kf h H locs la hP hD hX hl)
theorem z_icmp_le (C : zC p s m args c cc nL own Ts D cI cO) {x y : Int32} {off : Int} {tgt : Nat} (hdg : decode cc pc = .ok (.if_icmp .le off, 3)) (ht : (pc : Int) + off = (tgt : Int))
    (kt : x ≤ y → zG p l e R s m args below meth c D A X nL cells slots Q tgt ls st ws) (kf : ¬ x ≤ y → zG p l e R s m args below meth c D A X nL cells slots Q (pc + 3) ls st ws) : zG p l e R s m args below meth c D A X nL cells slots Q pc ls (.int y :: .int x :: st) ws := fun H locs la hP hD hX hl => lv_icmp_le C.1 C.2.1 hdg ht (fun h => kt h H locs la hP hD hX hl) (fun h => kf h H locs la hP hD hX hl)
theorem z_goto (C : zC p s m args c cc nL own Ts D cI cO) {off : Int} {tgt : Nat} (hdg : decode cc pc = .ok (.goto off, 3)) (ht : (pc : Int) + off = (tgt : Int))
    (kk : zG p l e R s m args below meth c D A X nL cells slots Q tgt ls st ws) : zG p l e R s m args below meth c D A X nL cells slots Q pc ls st ws := fun H locs la hP hD hX hl => lv_goto C.1 C.2.1 hdg ht (kk H locs la hP hD hX hl)
theorem z_tabOut (C : zC p s m args c cc nL own Ts D cI cO) {dflt lo hi : Int} {offs : Array Int} {len : Nat} {x : Int32} {tgt : Nat} (hdg : decode cc pc = .ok (.tableswitch dflt lo hi offs, len)) (h : x.toInt < lo ∨ hi < x.toInt) (ht : (pc : Int) + dflt = (tgt : Int))
    (kk : zG p l e R s m args below meth c D A X nL cells slots Q tgt ls st ws) : zG p l e R s m args below meth c D A X nL cells slots Q pc ls (.int x :: st) ws := fun H locs la hP hD hX hl => lv_tableOut C.1 C.2.1 hdg h ht (kk H locs la hP hD hX hl)
theorem z_tabIn (C : zC p s m args c cc nL own Ts D cI cO) {dflt lo hi : Int} {offs : Array Int} {len : Nat} {x : Int32} {off : Int} {tgt : Nat} (hdg : decode cc pc = .ok (.tableswitch dflt lo hi offs, len)) (h1 : ¬ x.toInt < lo) (h2 : ¬ hi < x.toInt) (ho : offs[(x.toInt - lo).toNat]? = some off) (ht : (pc : Int) + off = (tgt : Int))
    (kk : zG p l e R s m args below meth c D A X nL cells slots Q tgt ls st ws) : zG p l e R s m args below meth c D A X nL cells slots Q pc ls (.int x :: st) ws := fun H locs la hP hD hX hl => lv_tableIn C.1 C.2.1 hdg h1 h2 ho ht (kk H locs la hP hD hX hl)
theorem z_lookup (C : zC p s m args c cc nL own Ts D cI cO) {dflt : Int} {ps : Array (Int × Int)} {len : Nat} {x : Int32} {off : Int} {tgt : Nat} (hdg : decode cc pc = .ok (.lookupswitch dflt ps, len)) (hp : (ps.toList.zip (ps.toList.drop 1)).all (fun (a, next) => a.1 < next.1) = true) (ho : Op.lookupswitch.offset ps.toList dflt x.toInt = off) (ht : (pc : Int) + off = (tgt : Int))
    (kk : zG p l e R s m args below meth c D A X nL cells slots Q tgt ls st ws) : zG p l e R s m args below meth c D A X nL cells slots Q pc ls (.int x :: st) ws := fun H locs la hP hD hX hl => lv_lookup C.1 C.2.1 hdg hp ho ht (kk H locs la hP hD hX hl)
theorem z_ls (lv : List (Nat × Value)) (ks : List Nat) (hk : lv_pick ls ks = lv) (kk : zG p l e R s m args below meth c D A X nL cells slots Q pc lv st ws) : zG p l e R s m args below meth c D A X nL cells slots Q pc ls st ws := fun H locs la hP hD hX hl => kk H locs la hP hD hX (lv_sub hl ks hk)
theorem z_topi {x : Int32} (kk : ∀ y : Int32, y = x → zG p l e R s m args below meth c D A X nL cells slots Q pc ls (.int y :: st) ws) : zG p l e R s m args below meth c D A X nL cells slots Q pc ls (.int x :: st) ws := kk x rfl
theorem z_get (C : zC p s m args c cc nL own Ts D cI cO) {ref Cn : String} {T : u_T} {N ci index : Nat} {a : Nat} (hin : ∀ w ∈ u_ws Cn T N, w ∈ Ts) (q0 : Nat) {fs : List Value} (he : ws[q0]? = some (a, .inr (ci, fs))) (hc : vwCl[ci]? = some (Cn, T, N)) (k : Nat) (hk : k < N) (hlink : Cond.fieldLink own index ref (T k).2.1 (T k).2.2.1 ∈ Ts) (href : (T k).1 = ref) {v : Value} (hv : fs[k]? = some v) (hdg : decode cc pc = .ok (.getfield index, 3))
    (kk : zG p l e R s m args below meth c D A X nL cells slots Q (pc + 3) ls (v :: st) ws) : zG p l e R s m args below meth c D A X nL cells slots Q pc ls (.ref a :: st) ws := fun H locs la hP hD hX hl => va_get C.1 C.2.1 C.2.2.2.2.1 hin C.2.2.2.1 C.2.2.2.2.2.1 hP q0 he hc k hk (C.2.2.2.2.1 _ hlink) (fun x h => by rw [← href]; exact h) hv hdg (kk H locs la hP hD hX hl)
theorem z_put (C : zC p s m args c cc nL own Ts D cI cO) {ref Cn : String} {T : u_T} {N ci index : Nat} {a : Nat} {H0 : Heap} (ws1 : va_W) (hin : ∀ w ∈ u_ws Cn T N, w ∈ Ts) (ty0 : Nat → FieldType) (hty : ∀ k, k < N → parseFieldDescriptor (T k).2.2.1 = some (ty0 k)) (hnm : ∀ a, a < N → ∀ b, b < N → a ≠ b → (T a).2.1 ≠ (T b).2.1) (q0 : Nat) {fs : List Value} (he : ws[q0]? = some (a, .inr (ci, fs))) (hc : vwCl[ci]? = some (Cn, T, N)) (k : Nat) (hk : k < N) (hlink : Cond.fieldLink own index ref (T k).2.1 (T k).2.2.1 ∈ Ts) (href : (T k).1 = ref) (hfin : (T k).2.2.2 = false) {ty : FieldType} {v : Value} (hd : parseFieldDescriptor (T k).2.2.1 = some ty) (hn : narrow ty v = v) (hfit : fits ty v = true) (hl0 : k < fs.length) (hdg : decode cc pc = .ok (.putfield index, 3)) (hw : ws.set q0 (a, .inr (ci, fs.set k v)) = ws1)
    (kk : zG p l e R s m args below meth c D A (zXw A H0) nL cells slots Q (pc + 3) ls st ws1) : zG p l e R s m args below meth c D A (zXw A H0) nL cells slots Q pc ls (v :: .ref a :: st) ws := by
  subst hw
  exact fun H locs la hP hD hX hl => va_put C.1 C.2.1 C.2.2.2.2.1 hin ty0 hty hnm C.2.2.2.1 C.2.2.2.2.2.1 hP hD hX q0 he hc k hk (C.2.2.2.2.1 _ hlink) (fun x h => by rw [← href]; exact h) hfin hd hn hfit hl0 hdg (fun H1 locs1 hP1 hD1 hS1 => kk H1 locs1 la hP1 hD1 hS1 hl)
theorem z_ald (C : zC p s m args c cc nL own Ts D cI cO) {a n : Nat} {f : Nat → Int32} (q0 : Nat) (ha : ws[q0]? = some (a, .inl (cI, n, .inl f))) {i : Int32} (hin : vp_in i n) (hdg : decode cc pc = .ok (.iaload, 1))
    (kk : zG p l e R s m args below meth c D A X nL cells slots Q (pc + 1) ls (.int (f i.toNatClampNeg) :: st) ws) : zG p l e R s m args below meth c D A X nL cells slots Q pc ls (.int i :: .ref a :: st) ws := fun H locs la hP hD hX hl => va_iald C.1 C.2.1 C.2.2.2.2.2.1 hP q0 0 ha rfl hin hdg (kk H locs la hP hD hX hl)
theorem z_ast (C : zC p s m args c cc nL own Ts D cI cO) {a n : Nat} {f : Nat → Int32} {H0 : Heap} (ws1 : va_W) (q0 : Nat) (ha : ws[q0]? = some (a, .inl (cI, n, .inl f))) {i x : Int32} (hin : vp_in i n) (hdg : decode cc pc = .ok (.iastore, 1)) (hw : ws.set q0 (a, .inl (cI, n, .inl (upd f i.toNatClampNeg x))) = ws1)
    (kk : zG p l e R s m args below meth c D A (zXw A H0) nL cells slots Q (pc + 1) ls st ws1) : zG p l e R s m args below meth c D A (zXw A H0) nL cells slots Q pc ls (.int x :: .int i :: .ref a :: st) ws := by
  subst hw
  exact fun H locs la hP hD hX hl => va_iast C.1 C.2.1 C.2.2.2.2.2.1 hP hD hX q0 0 ha rfl hin hdg (fun H1 locs1 hP1 hD1 hS1 => kk H1 locs1 la hP1 hD1 hS1 hl)
theorem z_aldq (C : zC p s m args c cc nL own Ts D cI cO) {a n b : Nat} {f : Nat → Option Nat} (q0 : Nat) (ha : ws[q0]? = some (a, .inl (cO, n, .inr (.inr (.inr (.inr f)))))) {i : Int32} (hin : vp_in i n) (hb : f i.toNatClampNeg = some b) (hdg : decode cc pc = .ok (.aaload, 1))
    (kk : zG p l e R s m args below meth c D A X nL cells slots Q (pc + 1) ls (.ref b :: st) ws) : zG p l e R s m args below meth c D A X nL cells slots Q pc ls (.int i :: .ref a :: st) ws := fun H locs la hP hD hX hl => va_aldq C.1 C.2.1 C.2.2.2.2.2.1 hP q0 1 ha rfl hin hdg (by rw [hb]; exact kk H locs la hP hD hX hl)
theorem z_acopy (C : zC p s m args c cc nL own Ts D cI cO) {index a a0 n0 n1 : Nat} {f g : Nat → Int32} {H0 : Heap} (ws1 : va_W) (hlink : Cond.methodLink own index arraycopyName ∈ Ts) (hnat : Cond.native arraycopyName ∈ Ts) (hstat : Cond.static arraycopyName ∈ Ts) (hini : Cond.initialized "java/lang/System" ∈ Ts) (q0 q1 : Nat) (ha0 : ws[q0]? = some (a0, .inl (cI, n0, .inl f))) (ha1 : ws[q1]? = some (a, .inl (cI, n1, .inl g))) {sp dp n : Int32} (h1 : ¬ sp < 0) (h2 : ¬ dp < 0) (h3 : ¬ n < 0) (h4 : sp.toNatClampNeg + n.toNatClampNeg ≤ n0) (h5 : dp.toNatClampNeg + n.toNatClampNeg ≤ n1) (hfr : 1 ≤ R.frames) (hlo : (st.map fun v => v.category).sum + (nativeFrameWords "java/lang/System" "arraycopy" 5 + 11) ≤ R.locals) (hdg : decode cc pc = .ok (.invokestatic index, 3)) (hw : ws.set q1 (a, .inl (cI, n1, .inl (va_cpy f g sp.toNatClampNeg dp.toNatClampNeg n.toNatClampNeg))) = ws1)
    (kk : zG p l e R s m args below meth c D A (zXw A H0) nL cells slots Q (pc + 3) ls st ws1) : zG p l e R s m args below meth c D A (zXw A H0) nL cells slots Q pc ls (.int n :: .int dp :: .ref a :: .int sp :: .ref a0 :: st) ws := by
  subst hw
  exact fun H locs la hP hD hX hl => va_copyi C.1 C.2.1 (C.2.2.1.trans hl.1.symm) C.2.2.2.1 (C.2.2.2.2.1 _ hlink) (C.2.2.2.2.1 _ hnat) (C.2.2.2.2.1 _ hstat) (C.2.2.2.2.1 _ hini) C.2.2.2.2.2.1 hP hD hX q0 q1 0 0 ha0 ha1 rfl rfl rfl h1 h2 h3 h4 h5 (fun _ _ => rfl) hfr hlo hdg (fun H1 locs1 hP1 hD1 hS1 => kk H1 locs1 la hP1 hD1 hS1 hl)
theorem z_min (C : zC p s m args c cc nL own Ts D cI cO) {index : Nat} (hlink : Cond.methodLink own index Lib.Math.min.name ∈ Ts) (hstat : Cond.static Lib.Math.min.name ∈ Ts) (hini : Cond.initialized "java/lang/Math" ∈ Ts) (hcode : Cond.code Lib.Math.min.name Lib.Math.min.code 2 (some .int) ∈ Ts) (hfr : 1 ≤ R.frames) (hlo : (st.map fun v => v.category).sum + 13 ≤ R.locals) (hc : cells ≤ R.cells) (hs : slots ≤ R.slots) {x y : Int32} (hdg : decode cc pc = .ok (.invokestatic index, 3))
    (kk : zG p l e R s m args below meth c D A X nL cells slots Q (pc + 3) ls (.int (if y < x then y else x) :: st) ws) : zG p l e R s m args below meth c D A X nL cells slots Q pc ls (.int y :: .int x :: st) ws := fun H locs la hP hD hX hl => va_mmin C.1 C.2.1 (C.2.2.1.trans hl.1.symm) C.2.2.2.1 (C.2.2.2.2.1 _ hlink) (C.2.2.2.2.1 _ hstat) (C.2.2.2.2.1 _ hini) (C.2.2.2.2.1 _ hcode) hfr hlo hc hs hdg (kk H locs la hP hD hX hl)
theorem z_max (C : zC p s m args c cc nL own Ts D cI cO) {index : Nat} (hlink : Cond.methodLink own index Lib.Math.max.name ∈ Ts) (hstat : Cond.static Lib.Math.max.name ∈ Ts) (hini : Cond.initialized "java/lang/Math" ∈ Ts) (hcode : Cond.code Lib.Math.max.name Lib.Math.max.code 2 (some .int) ∈ Ts) (hfr : 1 ≤ R.frames) (hlo : (st.map fun v => v.category).sum + 13 ≤ R.locals) (hc : cells ≤ R.cells) (hs : slots ≤ R.slots) {x y : Int32} (hdg : decode cc pc = .ok (.invokestatic index, 3))
    (kk : zG p l e R s m args below meth c D A X nL cells slots Q (pc + 3) ls (.int (if x < y then y else x) :: st) ws) : zG p l e R s m args below meth c D A X nL cells slots Q pc ls (.int y :: .int x :: st) ws := fun H locs la hP hD hX hl => va_mmax C.1 C.2.1 (C.2.2.1.trans hl.1.symm) C.2.2.2.1 (C.2.2.2.2.1 _ hlink) (C.2.2.2.2.1 _ hstat) (C.2.2.2.2.1 _ hini) (C.2.2.2.2.1 _ hcode) hfr hlo hc hs hdg (kk H locs la hP hD hX hl)
theorem z_iretR (C : zC p s m args c cc nL own Ts D cI cO) {v x : Int32} (hr : meth.sig.returnType = some .int) (hlk : meth.locks = false) (hv : x = v) (hdg : decode cc pc = .ok (.ireturn, 1))
     : zG p l e R s m args below meth c D A (zXr s) nL 0 0 (MQ below (zQr (some (.int v))) args s 0 0 (fun _ => False)) pc ls [.int x] ws := by
  subst hv
  intro H locs la hP hD hX hl
  obtain ⟨rfl, rfl⟩ := hX
  exact W.iret C.1 C.2.1 hr (fun t ht hW => ⟨rfl, ht⟩) (fun q h => by cases h) hdg
theorem z_iretW (C : zC p s m args c cc nL own Ts D cI cO) {v x : Int32} {w1 : va_W} (hr : meth.sig.returnType = some .int) (hlk : meth.locks = false) (hv : x = v) (hw : ws = w1) (hdg : decode cc pc = .ok (.ireturn, 1))
     : zG p l e R s m args below meth c D A (zXw A s.heap) nL 0 0 (MQ below (zQw D w1 A (some (.int v))) args s 0 0 A) pc ls [.int x] ws := by
  subst hv; subst hw
  intro H locs la hP hD hX hl
  exact W.iret C.1 C.2.1 hr (fun t ht hW => ⟨⟨rfl, by rw [ht]; exact hP⟩, va_S.F hX ht⟩) hX.2.2 hdg
theorem z_lretR (C : zC p s m args c cc nL own Ts D cI cO) {v x : Int64} (hr : meth.sig.returnType = some .long) (hlk : meth.locks = false) (hv : x = v) (hdg : decode cc pc = .ok (.lreturn, 1))
     : zG p l e R s m args below meth c D A (zXr s) nL 0 0 (MQ below (zQr (some (.long v))) args s 0 0 (fun _ => False)) pc ls [.long x] ws := by
  subst hv
  intro H locs la hP hD hX hl
  obtain ⟨rfl, rfl⟩ := hX
  exact W.lret C.1 C.2.1 hr (fun t ht hW => ⟨rfl, ht⟩) (fun q h => by cases h) hdg
theorem z_lretW (C : zC p s m args c cc nL own Ts D cI cO) {v x : Int64} {w1 : va_W} (hr : meth.sig.returnType = some .long) (hlk : meth.locks = false) (hv : x = v) (hw : ws = w1) (hdg : decode cc pc = .ok (.lreturn, 1))
     : zG p l e R s m args below meth c D A (zXw A s.heap) nL 0 0 (MQ below (zQw D w1 A (some (.long v))) args s 0 0 A) pc ls [.long x] ws := by
  subst hv; subst hw
  intro H locs la hP hD hX hl
  exact W.lret C.1 C.2.1 hr (fun t ht hW => ⟨⟨rfl, by rw [ht]; exact hP⟩, va_S.F hX ht⟩) hX.2.2 hdg
theorem z_zretR (C : zC p s m args c cc nL own Ts D cI cO) {ty : FieldType} {v x : Int32} (hr : meth.sig.returnType = some ty) (hlk : meth.locks = false) (hn : narrow ty (.int x) = .int x) (hv : x = v) (hdg : decode cc pc = .ok (.ireturn, 1))
     : zG p l e R s m args below meth c D A (zXr s) nL 0 0 (MQ below (zQr (some (.int v))) args s 0 0 (fun _ => False)) pc ls [.int x] ws := by
  subst hv
  intro H locs la hP hD hX hl
  obtain ⟨rfl, rfl⟩ := hX
  exact W.zret C.1 C.2.1 hr hn (fun t ht hW => ⟨rfl, ht⟩) (fun q h => by cases h) hdg
theorem z_zretW (C : zC p s m args c cc nL own Ts D cI cO) {ty : FieldType} {v x : Int32} {w1 : va_W} (hr : meth.sig.returnType = some ty) (hlk : meth.locks = false) (hn : narrow ty (.int x) = .int x) (hv : x = v) (hw : ws = w1) (hdg : decode cc pc = .ok (.ireturn, 1))
     : zG p l e R s m args below meth c D A (zXw A s.heap) nL 0 0 (MQ below (zQw D w1 A (some (.int v))) args s 0 0 A) pc ls [.int x] ws := by
  subst hv; subst hw
  intro H locs la hP hD hX hl
  exact W.zret C.1 C.2.1 hr hn (fun t ht hW => ⟨⟨rfl, by rw [ht]; exact hP⟩, va_S.F hX ht⟩) hX.2.2 hdg
theorem z_vretW (C : zC p s m args c cc nL own Ts D cI cO) {w1 : va_W} (hr : meth.sig.returnType = none) (hlk : meth.locks = false) (hw : ws = w1) (hdg : decode cc pc = .ok (.return_, 1))
     : zG p l e R s m args below meth c D A (zXw A s.heap) nL 0 0 (MQ below (zQw D w1 A none) args s 0 0 A) pc ls [] ws := by
  subst hw
  intro H locs la hP hD hX hl
  exact W.vret C.1 C.2.1 hr (fun t ht hW => ⟨⟨rfl, by rw [ht]; exact hP⟩, va_S.F hX ht⟩) hX.2.2 hdg
theorem z_runR {g : JFrame} {rest : List Value} {v : Option Value} {a : Array Value} {H : Heap} {locs : List Loc} (hr : va_Run p l e R s m args below meth c H locs cells slots 0 0 g rest (zQr v a) (fun _ => False)) (kk : W p l e R s m args below meth c H locs cells slots Q { g with pc := g.pc + 3, stack := v.toList ++ rest }) : W p l e R s m args below meth c H locs cells slots Q g := by
  intro T hT X
  obtain ⟨v', st₀, t, T', L, h0, X', hL, e1, e2, ⟨hv, hh⟩, st⟩ := hr T hT X
  cases hv
  obtain ⟨t2, a1, b1⟩ := kk T' (by rw [e1, hh, h0]) (Stand.forget X' (fun q h => (hL q h).elim))
  exact ⟨t2, st t2 a1, b1⟩
theorem z_runW {g : JFrame} {rest : List Value} {v : Option Value} {a : Array Value} {H H0 : Heap} {locs : List Loc} {A1 : Nat → Prop} {w1 : va_W} (hr : va_Run p l e R s m args below meth c H locs cells slots 0 0 g rest (zQw D w1 A1 v a) A1) (hS : va_S A H0 H locs) (hA : ∀ q, A1 q → A q)
    (kk : ∀ (H1 : Heap) (locs1 : List Loc), va_P D vwCl w1 H1 → (∀ q : Nat, q < H.size → ¬ A1 q → H1[q]? = H[q]?) → va_S A H0 H1 locs1 → W p l e R s m args below meth c H1 locs1 cells slots Q { g with pc := g.pc + 3, stack := v.toList ++ rest }) : W p l e R s m args below meth c H locs cells slots Q g := by
  intro T hT X
  obtain ⟨v', st₀, t, T', L, h0, X', hL, e1, e2, ⟨⟨hv, hp⟩, hz, hk⟩, st⟩ := hr T hT X
  cases hv
  rw [h0] at hz hk
  obtain ⟨t2, a1, b1⟩ := kk T'.heap (locs ++ L) (by rw [e1]; exact hp) (fun q h1 h2 => by rw [e1]; exact hk q h1 h2)
    ⟨Nat.le_trans hS.1 (by rw [e1]; exact hz), fun q h1 h2 => by rw [e1, hk q (Nat.lt_of_lt_of_le h1 hS.1) (fun z => h2 (hA q z))]; exact hS.2.1 q h1 h2, fun q hq => by
      rcases List.mem_append.mp hq with h | h
      · exact hS.2.2 q h
      · exact hA _ (hL q h)⟩ T' rfl X'
  exact ⟨t2, st t2 a1, b1⟩
theorem z_sub {H : Heap} {w0 : va_W} (is : List Nat) (hnd : va_nd is = true) (hC : is.map (fun i => ws[i]?) = w0.map some) (hP : va_P D vwCl ws H) (hD : va_D A ws) : va_P D vwCl w0 H ∧ va_D A w0 ∧ ∀ q, zA w0 q → A q := by
  have hD0 := hD.sub is hnd hC
  refine ⟨fun k q hq => ?_, hD0, fun q ⟨k, e, h⟩ => hD0.2 k _ h⟩
  have h1 : (is.map (fun i => ws[i]?))[k]? = some (some q) := by rw [hC, List.getElem?_map, hq]; rfl
  rw [List.getElem?_map] at h1
  cases hi : is[k]? with
  | none => rw [hi] at h1; cases h1
  | some i => rw [hi] at h1; exact hP i q (Option.some.inj h1)
theorem z_back {H H1 : Heap} {w0 w1 ws1 : va_W} (is : List Nat) (hnd : va_nd is = true) (hC : is.map (fun i => ws[i]?) = w0.map some) (hfst : w1.map Prod.fst = w0.map Prod.fst) (hput : zput ws is w1 = ws1) (hP : va_P D vwCl ws H) (hD : va_D A ws) (hP1 : va_P D vwCl w1 H1) (hk : ∀ q : Nat, q < H.size → ¬ zA w0 q → H1[q]? = H[q]?) : va_P D vwCl ws1 H1 ∧ va_D A ws1 := by
  subst hput
  have hlen : is.length = w0.length := by have := congrArg List.length hC; simpa using this
  have hlen1 : w1.length = w0.length := by have := congrArg List.length hfst; simpa using this
  refine ⟨fun k q hq => ?_, zD_fst hD (zput_fst is w1 ws ?_)⟩
  · rcases zput_at is w1 ws k q hq with ⟨h1, h2⟩ | h1 | ⟨h1, -⟩
    · refine (hP k q h2).kept (hk q.1 (hP k q h2).lt ?_)
      rintro ⟨k2, e2, h3⟩
      have h4 : (is.map (fun i => ws[i]?))[k2]? = some (some (q.1, e2)) := by rw [hC, List.getElem?_map, h3]; rfl
      rw [List.getElem?_map] at h4
      cases hi : is[k2]? with
      | none => rw [hi] at h4; cases h4
      | some i =>
        rw [hi] at h4
        have h5 := hD.1 i k (q.1, e2) q (Option.some.inj h4) h2 rfl
        exact h1 (h5 ▸ List.mem_of_getElem? hi)
    · obtain ⟨j, hj⟩ := List.getElem?_of_mem h1
      exact hP1 j q hj
    · rw [List.drop_eq_nil_of_le (by omega)] at h1; cases h1
  · have e1 : is.map (fun i => (ws[i]?).map Prod.fst) = (is.map (fun i => ws[i]?)).map (fun o => o.map Prod.fst) := by simp
    have e2 : w1.map (fun q => some q.1) = (w1.map Prod.fst).map some := by simp
    rw [e1, hC, e2, hfst]
    simp
theorem z_cVR (C : zC p s m args c cc nL own Ts D cI cO) {y : MethodName} {wsy : List Cond} {rm : Room} {bytes : ByteArray} {maxL index n : Nat} {ret : Option FieldType} {v : Option Value} {w0 : va_W} {As : List Value} {Cn : String} {T : u_T} {N ci b : Nat} {fs : List Value} (hM : zR l y wsy rm D cI cO (.ref b :: As) w0 v) (cw : CallW R s args own Cn index y bytes maxL ret wsy rm 0 0 n) (is : List Nat) (hnd : va_nd is = true) (hC : is.map (fun i => ws[i]?) = w0.map some) (q0 : Nat) (he : ws[q0]? = some (b, .inr (ci, fs))) (hc : vwCl[ci]? = some (Cn, T, N)) (hn : As.length = n) (stk : List Value) (hstk : stk = As.reverse ++ .ref b :: st) (hcat : (st.map fun v => v.category).sum ≤ 8) (hf : cells ≤ R.cells ∧ slots ≤ R.slots) (hdg : decode cc pc = .ok (.invokevirtual index, 3))
    (kk : zG p l e R s m args below meth c D A X nL cells slots Q (pc + 3) ls (v.toList ++ st) ws) : zG p l e R s m args below meth c D A X nL cells slots Q pc ls stk ws := by
  subst hstk
  intro H locs la hP hD hX hl
  obtain ⟨hP0, hD0, hA0⟩ := z_sub is hnd hC hP hD
  exact z_runR (va_runV (As := As) (rest := st) ⟨C.1, C.2.1, C.2.2.1, C.2.2.2.1, C.2.2.2.2.1⟩ hM cw ⟨zPc.blind, va_recv C.2.2.2.2.2.1 hP hc he, fun U hU hW => ⟨rfl, by rw [hU]; exact hP0, C.2.2.2.2.2.warm hW, hD0.weaken (fun _ _ _ _ => trivial)⟩⟩ rfl hn hl.1 rfl (lv_room hcat) hdg ⟨by simpa using hf.1, by simpa using hf.2⟩) (kk H locs la hP hD hX hl)
theorem z_cSR (C : zC p s m args c cc nL own Ts D cI cO) {y : MethodName} {wsy : List Cond} {rm : Room} {bytes : ByteArray} {maxL index n : Nat} {ret : Option FieldType} {v : Option Value} {w0 : va_W} {As : List Value} (hM : zR l y wsy rm D cI cO As w0 v) (cw : CallB R s args own index y bytes maxL ret wsy rm 0 0 n ∧ (Cond.static y).before args s = true) (is : List Nat) (hnd : va_nd is = true) (hC : is.map (fun i => ws[i]?) = w0.map some) (hn : As.length = n) (stk : List Value) (hstk : stk = As.reverse ++ st) (hcat : (st.map fun v => v.category).sum ≤ 8) (hf : cells ≤ R.cells ∧ slots ≤ R.slots) (hdg : decode cc pc = .ok (.invokestatic index, 3))
    (kk : zG p l e R s m args below meth c D A X nL cells slots Q (pc + 3) ls (v.toList ++ st) ws) : zG p l e R s m args below meth c D A X nL cells slots Q pc ls stk ws := by
  subst hstk
  intro H locs la hP hD hX hl
  obtain ⟨hP0, hD0, hA0⟩ := z_sub is hnd hC hP hD
  exact z_runR (va_runS (As := As) (rest := st) ⟨C.1, C.2.1, C.2.2.1, C.2.2.2.1, C.2.2.2.2.1⟩ hM cw ⟨zPc.blind, fun U hU hW => ⟨rfl, by rw [hU]; exact hP0, C.2.2.2.2.2.warm hW, hD0.weaken (fun _ _ _ _ => trivial)⟩⟩ rfl hn hl.1 rfl (lv_room hcat) hdg ⟨by simpa using hf.1, by simpa using hf.2⟩) (kk H locs la hP hD hX hl)
theorem z_cNR (C : zC p s m args c cc nL own Ts D cI cO) {y : MethodName} {wsy : List Cond} {rm : Room} {bytes : ByteArray} {maxL index n : Nat} {ret : Option FieldType} {v : Option Value} {w0 : va_W} {As : List Value} {host : String} (hM : zR l y wsy rm D cI cO As w0 v) (cw : va_CN R s args own index y host bytes maxL ret wsy rm 0 0 n ∧ (Cond.static y).before args s = true ∧ True) (is : List Nat) (hnd : va_nd is = true) (hC : is.map (fun i => ws[i]?) = w0.map some) (hn : As.length = n) (stk : List Value) (hstk : stk = As.reverse ++ st) (hcat : (st.map fun v => v.category).sum ≤ 8) (hf : cells ≤ R.cells ∧ slots ≤ R.slots) (hdg : decode cc pc = .ok (.invokestatic index, 3))
    (kk : zG p l e R s m args below meth c D A X nL cells slots Q (pc + 3) ls (v.toList ++ st) ws) : zG p l e R s m args below meth c D A X nL cells slots Q pc ls stk ws := by
  subst hstk
  intro H locs la hP hD hX hl
  obtain ⟨hP0, hD0, hA0⟩ := z_sub is hnd hC hP hD
  exact z_runR (va_runSN (As := As) (rest := st) ⟨C.1, C.2.1, C.2.2.1, C.2.2.2.1, C.2.2.2.2.1⟩ hM cw ⟨zPc.blind, fun U hU hW => ⟨rfl, by rw [hU]; exact hP0, C.2.2.2.2.2.warm hW, hD0.weaken (fun _ _ _ _ => trivial)⟩⟩ rfl hn hl.1 rfl (lv_room hcat) hdg ⟨by simpa using hf.1, by simpa using hf.2⟩) (kk H locs la hP hD hX hl)
theorem z_cVW (C : zC p s m args c cc nL own Ts D cI cO) {y : MethodName} {wsy : List Cond} {rm : Room} {bytes : ByteArray} {maxL index n : Nat} {ret : Option FieldType} {v : Option Value} {w0 : va_W} {As : List Value} {Cn : String} {T : u_T} {N ci b : Nat} {fs : List Value} {w1 : va_W} {H0 : Heap} (hM : zW l y wsy rm D cI cO (.ref b :: As) w0 w1 v) (cw : CallW R s args own Cn index y bytes maxL ret wsy rm 0 0 n) (ws1 : va_W) (is : List Nat) (hnd : va_nd is = true) (hC : is.map (fun i => ws[i]?) = w0.map some) (hfst : w1.map Prod.fst = w0.map Prod.fst) (hput : zput ws is w1 = ws1) (q0 : Nat) (he : ws[q0]? = some (b, .inr (ci, fs))) (hc : vwCl[ci]? = some (Cn, T, N)) (hn : As.length = n) (stk : List Value) (hstk : stk = As.reverse ++ .ref b :: st) (hcat : (st.map fun v => v.category).sum ≤ 8) (hf : cells ≤ R.cells ∧ slots ≤ R.slots) (hdg : decode cc pc = .ok (.invokevirtual index, 3))
    (kk : zG p l e R s m args below meth c D A (zXw A H0) nL cells slots Q (pc + 3) ls (v.toList ++ st) ws1) : zG p l e R s m args below meth c D A (zXw A H0) nL cells slots Q pc ls stk ws := by
  subst hstk
  intro H locs la hP hD hX hl
  obtain ⟨hP0, hD0, hA0⟩ := z_sub is hnd hC hP hD
  refine z_runW (va_runV (As := As) (rest := st) ⟨C.1, C.2.1, C.2.2.1, C.2.2.2.1, C.2.2.2.2.1⟩ hM cw ⟨zPc.blind, va_recv C.2.2.2.2.2.1 hP hc he, fun U hU hW => ⟨rfl, by rw [hU]; exact hP0, C.2.2.2.2.2.warm hW, hD0.weaken (fun _ _ _ _ => trivial)⟩⟩ rfl hn hl.1 rfl (lv_room hcat) hdg ⟨by simpa using hf.1, by simpa using hf.2⟩) hX hA0 (fun H1 locs1 hP1 hk1 hS1 => ?_)
  obtain ⟨g1, g2⟩ := z_back is hnd hC hfst hput hP hD hP1 hk1
  exact kk H1 locs1 la g1 g2 hS1 hl
theorem z_cSW (C : zC p s m args c cc nL own Ts D cI cO) {y : MethodName} {wsy : List Cond} {rm : Room} {bytes : ByteArray} {maxL index n : Nat} {ret : Option FieldType} {v : Option Value} {w0 : va_W} {As : List Value} {w1 : va_W} {H0 : Heap} (hM : zW l y wsy rm D cI cO As w0 w1 v) (cw : CallB R s args own index y bytes maxL ret wsy rm 0 0 n ∧ (Cond.static y).before args s = true) (ws1 : va_W) (is : List Nat) (hnd : va_nd is = true) (hC : is.map (fun i => ws[i]?) = w0.map some) (hfst : w1.map Prod.fst = w0.map Prod.fst) (hput : zput ws is w1 = ws1) (hn : As.length = n) (stk : List Value) (hstk : stk = As.reverse ++ st) (hcat : (st.map fun v => v.category).sum ≤ 8) (hf : cells ≤ R.cells ∧ slots ≤ R.slots) (hdg : decode cc pc = .ok (.invokestatic index, 3))
    (kk : zG p l e R s m args below meth c D A (zXw A H0) nL cells slots Q (pc + 3) ls (v.toList ++ st) ws1) : zG p l e R s m args below meth c D A (zXw A H0) nL cells slots Q pc ls stk ws := by
  subst hstk
  intro H locs la hP hD hX hl
  obtain ⟨hP0, hD0, hA0⟩ := z_sub is hnd hC hP hD
  refine z_runW (va_runS (As := As) (rest := st) ⟨C.1, C.2.1, C.2.2.1, C.2.2.2.1, C.2.2.2.2.1⟩ hM cw ⟨zPc.blind, fun U hU hW => ⟨rfl, by rw [hU]; exact hP0, C.2.2.2.2.2.warm hW, hD0.weaken (fun _ _ _ _ => trivial)⟩⟩ rfl hn hl.1 rfl (lv_room hcat) hdg ⟨by simpa using hf.1, by simpa using hf.2⟩) hX hA0 (fun H1 locs1 hP1 hk1 hS1 => ?_)
  obtain ⟨g1, g2⟩ := z_back is hnd hC hfst hput hP hD hP1 hk1
  exact kk H1 locs1 la g1 g2 hS1 hl
end ZG
theorem zN_0 {U : State} (h : zN U) : va_Nw (.methodLinkNest RX5 11 yX4_init RX5) U := h (RX5, 11, yX4_init) (List.mem_of_getElem? (i := 0) rfl)  -- zN_0
theorem zN_1 {U : State} (h : zN U) : va_Nw (.methodLinkNest RX5 20 yX2_init RX5) U := h (RX5, 20, yX2_init) (List.mem_of_getElem? (i := 1) rfl)  -- zN_0
theorem zN_2 {U : State} (h : zN U) : va_Nw (.methodLinkNest RX5 27 yX0_init RX5) U := h (RX5, 27, yX0_init) (List.mem_of_getElem? (i := 2) rfl)  -- zN_0
theorem zN_3 {U : State} (h : zN U) : va_Nw (.methodLinkNest RX5 34 yX1_init RX5) U := h (RX5, 34, yX1_init) (List.mem_of_getElem? (i := 3) rfl)  -- zN_0
theorem zN_4 {U : State} (h : zN U) : va_Nw (.methodLinkNest RX5 45 yX3_init RX5) U := h (RX5, 45, yX3_init) (List.mem_of_getElem? (i := 4) rfl)  -- zN_0
theorem zN_5 {U : State} (h : zN U) : va_Nw (.methodLinkNest RX0 11 yX4_init RX5) U := h (RX0, 11, yX4_init) (List.mem_of_getElem? (i := 5) rfl)  -- zN_0
theorem zN_6 {U : State} (h : zN U) : va_Nw (.methodLinkNest RX2 37 yX5_wishOf RX5) U := h (RX2, 37, yX5_wishOf) (List.mem_of_getElem? (i := 6) rfl)  -- zN_0
theorem zN_7 {U : State} (h : zN U) : va_Nw (.methodLinkNest RX4 54 yX5_turnOf RX5) U := h (RX4, 54, yX5_turnOf) (List.mem_of_getElem? (i := 7) rfl)  -- zN_0
theorem zN_8 {U : State} (h : zN U) : va_Nw (.methodLinkNest RX4 58 yX5_wishOf RX5) U := h (RX4, 58, yX5_wishOf) (List.mem_of_getElem? (i := 8) rfl)  -- zN_0
theorem zne {x k : Int32} {z : Int} (h : ¬ x = k) (hz : k.toInt = z) : x.toInt ≠ z := fun e => h (Int32.toInt_inj.mp (e.trans hz.symm))
end
section
set_option maxRecDepth 20000 in
theorem ggX0_init_X4_init : GoodIn wsX0_init wsX4_init := goodIn_r _ [9, 10, 2, 3, 11, 12, 13, 14, 15, 16, 17, 18, 19, 20, 21] (by decide +kernel) (by decide +kernel)
set_option maxRecDepth 20000 in
theorem gX0_init_X4_init_n11 : GoodIn wsX0_init (wsX4_init) := ggX0_init_X4_init
theorem dX0_init_0 : decode cX0_init 0 = .ok (.aload_n 0, 1) := by decide +kernel
theorem dX0_init_1 : decode cX0_init 1 = .ok (.invokespecial 3, 3) := by decide +kernel
theorem dX0_init_4 : decode cX0_init 4 = .ok (.aload_n 0, 1) := by decide +kernel
theorem dX0_init_5 : decode cX0_init 5 = .ok (.new 9, 3) := by decide +kernel
theorem dX0_init_8 : decode cX0_init 8 = .ok (.dup, 1) := by decide +kernel
theorem dX0_init_9 : decode cX0_init 9 = .ok (.invokespecial 11, 3) := by decide +kernel
theorem dX0_init_12 : decode cX0_init 12 = .ok (.putfield 12, 3) := by decide +kernel
theorem dX0_init_15 : decode cX0_init 15 = .ok (.return_, 1) := by decide +kernel
set_option maxRecDepth 20000 in
theorem ggX0_play_X4_become : GoodIn wsX0_play wsX4_become := goodIn_r _ [8, 9, 10, 11, 12, 13, 14, 15, 16, 17, 18, 19, 62, 63, 64, 65, 66, 67, 68] (by decide +kernel) (by decide +kernel)
set_option maxRecDepth 20000 in
theorem gX0_play_X4_become : GoodIn wsX0_play (wsV RX0 18 RX4 yX4_become wsX4_become) := goodIn_app (goodIn_of _ (by decide +kernel)) ggX0_play_X4_become
set_option maxRecDepth 20000 in
theorem ggX0_play_X3_at : GoodIn wsX0_play wsX3_at := goodIn_r _ [24, 25, 26, 27, 28, 23, 29, 30, 69, 70, 71] (by decide +kernel) (by decide +kernel)
set_option maxRecDepth 20000 in
theorem gX0_play_X3_at : GoodIn wsX0_play (wsV RX0 29 RX3 yX3_at wsX3_at) := goodIn_app (goodIn_of _ (by decide +kernel)) ggX0_play_X3_at
set_option maxRecDepth 20000 in
theorem ggX0_play_X0_canDo : GoodIn wsX0_play wsX0_canDo := goodIn_r _ [35, 1, 36, 37, 3, 38, 39, 40, 7, 41, 16, 42, 43, 44, 45, 17, 9, 14, 18, 15, 46, 47, 48, 49, 50, 51, 52, 53, 54, 55, 56, 57, 58, 19, 59, 60, 61, 62, 63, 64, 65, 66, 67, 68] (by decide +kernel) (by decide +kernel)
set_option maxRecDepth 20000 in
theorem gX0_play_X0_canDo : GoodIn wsX0_play (wsV RX0 35 RX0 yX0_canDo wsX0_canDo) := goodIn_app (goodIn_of _ (by decide +kernel)) ggX0_play_X0_canDo
theorem dX0_play_0 : decode cX0_play 0 = .ok (.aload_n 0, 1) := by decide +kernel
theorem dX0_play_1 : decode cX0_play 1 = .ok (.getfield 12, 3) := by decide +kernel
theorem dX0_play_4 : decode cX0_play 4 = .ok (.aload_n 1, 1) := by decide +kernel
theorem dX0_play_5 : decode cX0_play 5 = .ok (.invokevirtual 18, 3) := by decide +kernel
theorem dX0_play_8 : decode cX0_play 8 = .ok (.aload_n 0, 1) := by decide +kernel
theorem dX0_play_9 : decode cX0_play 9 = .ok (.bipush (-9), 2) := by decide +kernel
theorem dX0_play_11 : decode cX0_play 11 = .ok (.putfield 22, 3) := by decide +kernel
theorem dX0_play_14 : decode cX0_play 14 = .ok (.aload_n 0, 1) := by decide +kernel
theorem dX0_play_15 : decode cX0_play 15 = .ok (.iconst 0, 1) := by decide +kernel
theorem dX0_play_16 : decode cX0_play 16 = .ok (.putfield 26, 3) := by decide +kernel
theorem dX0_play_19 : decode cX0_play 19 = .ok (.iconst 0, 1) := by decide +kernel
theorem dX0_play_20 : decode cX0_play 20 = .ok (.istore 5, 2) := by decide +kernel
theorem dX0_play_22 : decode cX0_play 22 = .ok (.iload 5, 2) := by decide +kernel
theorem dX0_play_24 : decode cX0_play 24 = .ok (.iload 4, 2) := by decide +kernel
theorem dX0_play_26 : decode cX0_play 26 = .ok (.if_icmp .ge 53, 3) := by decide +kernel
theorem dX0_play_29 : decode cX0_play 29 = .ok (.aload_n 0, 1) := by decide +kernel
theorem dX0_play_30 : decode cX0_play 30 = .ok (.getfield 22, 3) := by decide +kernel
theorem dX0_play_33 : decode cX0_play 33 = .ok (.bipush (-9), 2) := by decide +kernel
theorem dX0_play_35 : decode cX0_play 35 = .ok (.if_icmp .ne 44, 3) := by decide +kernel
theorem dX0_play_38 : decode cX0_play 38 = .ok (.aload_n 0, 1) := by decide +kernel
theorem dX0_play_39 : decode cX0_play 39 = .ok (.aload_n 2, 1) := by decide +kernel
theorem dX0_play_40 : decode cX0_play 40 = .ok (.iload_n 3, 1) := by decide +kernel
theorem dX0_play_41 : decode cX0_play 41 = .ok (.iconst 2, 1) := by decide +kernel
theorem dX0_play_42 : decode cX0_play 42 = .ok (.iload 5, 2) := by decide +kernel
theorem dX0_play_44 : decode cX0_play 44 = .ok (.imul, 1) := by decide +kernel
theorem dX0_play_45 : decode cX0_play 45 = .ok (.iadd, 1) := by decide +kernel
theorem dX0_play_46 : decode cX0_play 46 = .ok (.invokevirtual 29, 3) := by decide +kernel
theorem dX0_play_49 : decode cX0_play 49 = .ok (.aload_n 2, 1) := by decide +kernel
theorem dX0_play_50 : decode cX0_play 50 = .ok (.iload_n 3, 1) := by decide +kernel
theorem dX0_play_51 : decode cX0_play 51 = .ok (.iconst 2, 1) := by decide +kernel
theorem dX0_play_52 : decode cX0_play 52 = .ok (.iload 5, 2) := by decide +kernel
theorem dX0_play_54 : decode cX0_play 54 = .ok (.imul, 1) := by decide +kernel
theorem dX0_play_55 : decode cX0_play 55 = .ok (.iadd, 1) := by decide +kernel
theorem dX0_play_56 : decode cX0_play 56 = .ok (.iconst 1, 1) := by decide +kernel
theorem dX0_play_57 : decode cX0_play 57 = .ok (.iadd, 1) := by decide +kernel
theorem dX0_play_58 : decode cX0_play 58 = .ok (.invokevirtual 29, 3) := by decide +kernel
theorem dX0_play_61 : decode cX0_play 61 = .ok (.invokevirtual 35, 3) := by decide +kernel
theorem dX0_play_64 : decode cX0_play 64 = .ok (.ifCond .ne 9, 3) := by decide +kernel
theorem dX0_play_67 : decode cX0_play 67 = .ok (.aload_n 0, 1) := by decide +kernel
theorem dX0_play_68 : decode cX0_play 68 = .ok (.iload 5, 2) := by decide +kernel
theorem dX0_play_70 : decode cX0_play 70 = .ok (.putfield 22, 3) := by decide +kernel
theorem dX0_play_73 : decode cX0_play 73 = .ok (.iinc 5 1, 3) := by decide +kernel
theorem dX0_play_76 : decode cX0_play 76 = .ok (.goto (-54), 3) := by decide +kernel
theorem dX0_play_79 : decode cX0_play 79 = .ok (.return_, 1) := by decide +kernel
set_option maxRecDepth 20000 in
theorem ggX0_canDo_X4_dropTop : GoodIn wsX0_canDo wsX4_dropTop := goodIn_r _ [9, 10, 37, 38, 39, 40, 41, 42, 43] (by decide +kernel) (by decide +kernel)
set_option maxRecDepth 20000 in
theorem gX0_canDo_X4_dropTop : GoodIn wsX0_canDo (wsV RX0 39 RX4 yX4_dropTop wsX4_dropTop) := goodIn_app (goodIn_of _ (by decide +kernel)) ggX0_canDo_X4_dropTop
set_option maxRecDepth 20000 in
theorem ggX0_canDo_X4_wishAt : GoodIn wsX0_canDo wsX4_wishAt := goodIn_r _ [14, 15, 16, 17, 18, 19, 20, 21, 22, 8, 23, 10, 24, 25, 26, 27, 28, 37, 38, 39, 40, 41, 42, 43] (by decide +kernel) (by decide +kernel)
set_option maxRecDepth 20000 in
theorem gX0_canDo_X4_wishAt : GoodIn wsX0_canDo (wsV RX0 49 RX4 yX4_wishAt wsX4_wishAt) := goodIn_app (goodIn_of _ (by decide +kernel)) ggX0_canDo_X4_wishAt
set_option maxRecDepth 20000 in
theorem ggX0_canDo_X4_addTop : GoodIn wsX0_canDo wsX4_addTop := goodIn_r _ [32, 10, 16, 17, 19, 33, 37, 38, 39, 40, 41, 42, 43] (by decide +kernel) (by decide +kernel)
set_option maxRecDepth 20000 in
theorem gX0_canDo_X4_addTop : GoodIn wsX0_canDo (wsV RX0 52 RX4 yX4_addTop wsX4_addTop) := goodIn_app (goodIn_of _ (by decide +kernel)) ggX0_canDo_X4_addTop
theorem dX0_canDo_0 : decode cX0_canDo 0 = .ok (.iload_n 2, 1) := by decide +kernel
theorem dX0_canDo_1 : decode cX0_canDo 1 = .ok (.iconst 4, 1) := by decide +kernel
theorem dX0_canDo_2 : decode cX0_canDo 2 = .ok (.if_icmp .ne 11, 3) := by decide +kernel
theorem dX0_canDo_5 : decode cX0_canDo 5 = .ok (.aload_n 0, 1) := by decide +kernel
theorem dX0_canDo_6 : decode cX0_canDo 6 = .ok (.getfield 12, 3) := by decide +kernel
theorem dX0_canDo_9 : decode cX0_canDo 9 = .ok (.invokevirtual 39, 3) := by decide +kernel
theorem dX0_canDo_12 : decode cX0_canDo 12 = .ok (.ireturn, 1) := by decide +kernel
theorem dX0_canDo_13 : decode cX0_canDo 13 = .ok (.iload_n 2, 1) := by decide +kernel
theorem dX0_canDo_14 : decode cX0_canDo 14 = .ok (.iconst 3, 1) := by decide +kernel
theorem dX0_canDo_15 : decode cX0_canDo 15 = .ok (.if_icmp .ne 18, 3) := by decide +kernel
theorem dX0_canDo_18 : decode cX0_canDo 18 = .ok (.aload_n 0, 1) := by decide +kernel
theorem dX0_canDo_19 : decode cX0_canDo 19 = .ok (.getfield 12, 3) := by decide +kernel
theorem dX0_canDo_22 : decode cX0_canDo 22 = .ok (.dup, 1) := by decide +kernel
theorem dX0_canDo_23 : decode cX0_canDo 23 = .ok (.getfield 43, 3) := by decide +kernel
theorem dX0_canDo_26 : decode cX0_canDo 26 = .ok (.iload_n 1, 1) := by decide +kernel
theorem dX0_canDo_27 : decode cX0_canDo 27 = .ok (.iadd, 1) := by decide +kernel
theorem dX0_canDo_28 : decode cX0_canDo 28 = .ok (.putfield 43, 3) := by decide +kernel
theorem dX0_canDo_31 : decode cX0_canDo 31 = .ok (.iconst 1, 1) := by decide +kernel
theorem dX0_canDo_32 : decode cX0_canDo 32 = .ok (.ireturn, 1) := by decide +kernel
theorem dX0_canDo_33 : decode cX0_canDo 33 = .ok (.aload_n 0, 1) := by decide +kernel
theorem dX0_canDo_34 : decode cX0_canDo 34 = .ok (.getfield 12, 3) := by decide +kernel
theorem dX0_canDo_37 : decode cX0_canDo 37 = .ok (.aload_n 0, 1) := by decide +kernel
theorem dX0_canDo_38 : decode cX0_canDo 38 = .ok (.getfield 12, 3) := by decide +kernel
theorem dX0_canDo_41 : decode cX0_canDo 41 = .ok (.getfield 46, 3) := by decide +kernel
theorem dX0_canDo_44 : decode cX0_canDo 44 = .ok (.iconst 1, 1) := by decide +kernel
theorem dX0_canDo_45 : decode cX0_canDo 45 = .ok (.isub, 1) := by decide +kernel
theorem dX0_canDo_46 : decode cX0_canDo 46 = .ok (.invokevirtual 49, 3) := by decide +kernel
theorem dX0_canDo_49 : decode cX0_canDo 49 = .ok (.istore_n 3, 1) := by decide +kernel
theorem dX0_canDo_50 : decode cX0_canDo 50 = .ok (.aload_n 0, 1) := by decide +kernel
theorem dX0_canDo_51 : decode cX0_canDo 51 = .ok (.getfield 12, 3) := by decide +kernel
theorem dX0_canDo_54 : decode cX0_canDo 54 = .ok (.iload_n 2, 1) := by decide +kernel
theorem dX0_canDo_55 : decode cX0_canDo 55 = .ok (.iload_n 1, 1) := by decide +kernel
theorem dX0_canDo_56 : decode cX0_canDo 56 = .ok (.invokevirtual 52, 3) := by decide +kernel
theorem dX0_canDo_59 : decode cX0_canDo 59 = .ok (.ifCond .ne 5, 3) := by decide +kernel
theorem dX0_canDo_62 : decode cX0_canDo 62 = .ok (.iconst 0, 1) := by decide +kernel
theorem dX0_canDo_63 : decode cX0_canDo 63 = .ok (.ireturn, 1) := by decide +kernel
theorem dX0_canDo_64 : decode cX0_canDo 64 = .ok (.aload_n 0, 1) := by decide +kernel
theorem dX0_canDo_65 : decode cX0_canDo 65 = .ok (.getfield 12, 3) := by decide +kernel
theorem dX0_canDo_68 : decode cX0_canDo 68 = .ok (.aload_n 0, 1) := by decide +kernel
theorem dX0_canDo_69 : decode cX0_canDo 69 = .ok (.getfield 12, 3) := by decide +kernel
theorem dX0_canDo_72 : decode cX0_canDo 72 = .ok (.getfield 46, 3) := by decide +kernel
theorem dX0_canDo_75 : decode cX0_canDo 75 = .ok (.iconst 1, 1) := by decide +kernel
theorem dX0_canDo_76 : decode cX0_canDo 76 = .ok (.isub, 1) := by decide +kernel
theorem dX0_canDo_77 : decode cX0_canDo 77 = .ok (.invokevirtual 49, 3) := by decide +kernel
theorem dX0_canDo_80 : decode cX0_canDo 80 = .ok (.iload_n 3, 1) := by decide +kernel
theorem dX0_canDo_81 : decode cX0_canDo 81 = .ok (.if_icmp .ne 13, 3) := by decide +kernel
theorem dX0_canDo_84 : decode cX0_canDo 84 = .ok (.aload_n 0, 1) := by decide +kernel
theorem dX0_canDo_85 : decode cX0_canDo 85 = .ok (.dup, 1) := by decide +kernel
theorem dX0_canDo_86 : decode cX0_canDo 86 = .ok (.getfield 26, 3) := by decide +kernel
theorem dX0_canDo_89 : decode cX0_canDo 89 = .ok (.iconst 1, 1) := by decide +kernel
theorem dX0_canDo_90 : decode cX0_canDo 90 = .ok (.iadd, 1) := by decide +kernel
theorem dX0_canDo_91 : decode cX0_canDo 91 = .ok (.putfield 26, 3) := by decide +kernel
theorem dX0_canDo_94 : decode cX0_canDo 94 = .ok (.iconst 1, 1) := by decide +kernel
theorem dX0_canDo_95 : decode cX0_canDo 95 = .ok (.ireturn, 1) := by decide +kernel
set_option maxRecDepth 20000 in
theorem ggX0_told_X0_allWishes : GoodIn wsX0_told wsX0_allWishes := goodIn_r _ [10, 2, 3, 11, 12, 13, 14, 15, 16, 17, 18, 19, 20, 21, 22, 23, 24, 25, 26, 27, 28, 29, 30, 31, 32, 33, 34, 35, 36, 37, 38, 39, 40] (by decide +kernel) (by decide +kernel)
set_option maxRecDepth 20000 in
theorem gX0_told_X0_allWishes : GoodIn wsX0_told (wsV RX0 55 RX0 yX0_allWishes wsX0_allWishes) := goodIn_app (goodIn_of _ (by decide +kernel)) ggX0_told_X0_allWishes
set_option maxRecDepth 20000 in
theorem ggX0_told_X4_wishAt : GoodIn wsX0_told wsX4_wishAt := goodIn_r _ [15, 16, 17, 18, 19, 20, 21, 22, 23, 14, 24, 25, 26, 27, 28, 29, 30, 34, 35, 36, 37, 38, 39, 40] (by decide +kernel) (by decide +kernel)
set_option maxRecDepth 20000 in
theorem gX0_told_X4_wishAt : GoodIn wsX0_told (wsV RX0 49 RX4 yX4_wishAt wsX4_wishAt) := goodIn_app (goodIn_of _ (by decide +kernel)) ggX0_told_X4_wishAt
theorem dX0_told_0 : decode cX0_told 0 = .ok (.iload_n 1, 1) := by decide +kernel
theorem dX0_told_1 : decode cX0_told 1 = .ok (.iconst 1, 1) := by decide +kernel
theorem dX0_told_2 : decode cX0_told 2 = .ok (.if_icmp .ne 8, 3) := by decide +kernel
theorem dX0_told_5 : decode cX0_told 5 = .ok (.aload_n 0, 1) := by decide +kernel
theorem dX0_told_6 : decode cX0_told 6 = .ok (.getfield 22, 3) := by decide +kernel
theorem dX0_told_9 : decode cX0_told 9 = .ok (.ireturn, 1) := by decide +kernel
theorem dX0_told_10 : decode cX0_told 10 = .ok (.aload_n 0, 1) := by decide +kernel
theorem dX0_told_11 : decode cX0_told 11 = .ok (.getfield 22, 3) := by decide +kernel
theorem dX0_told_14 : decode cX0_told 14 = .ok (.bipush (-9), 2) := by decide +kernel
theorem dX0_told_16 : decode cX0_told 16 = .ok (.if_icmp .eq 11, 3) := by decide +kernel
theorem dX0_told_19 : decode cX0_told 19 = .ok (.bipush (-100), 2) := by decide +kernel
theorem dX0_told_21 : decode cX0_told 21 = .ok (.aload_n 0, 1) := by decide +kernel
theorem dX0_told_22 : decode cX0_told 22 = .ok (.getfield 22, 3) := by decide +kernel
theorem dX0_told_25 : decode cX0_told 25 = .ok (.isub, 1) := by decide +kernel
theorem dX0_told_26 : decode cX0_told 26 = .ok (.ireturn, 1) := by decide +kernel
theorem dX0_told_27 : decode cX0_told 27 = .ok (.iload_n 1, 1) := by decide +kernel
theorem dX0_told_28 : decode cX0_told 28 = .ok (.tableswitch 62 0 4 #[36, 62, 44, 49, 57], 36) := by decide +kernel
theorem dX0_told_64 : decode cX0_told 64 = .ok (.aload_n 0, 1) := by decide +kernel
theorem dX0_told_65 : decode cX0_told 65 = .ok (.getfield 12, 3) := by decide +kernel
theorem dX0_told_68 : decode cX0_told 68 = .ok (.getfield 46, 3) := by decide +kernel
theorem dX0_told_71 : decode cX0_told 71 = .ok (.ireturn, 1) := by decide +kernel
theorem dX0_told_72 : decode cX0_told 72 = .ok (.aload_n 0, 1) := by decide +kernel
theorem dX0_told_73 : decode cX0_told 73 = .ok (.getfield 26, 3) := by decide +kernel
theorem dX0_told_76 : decode cX0_told 76 = .ok (.ireturn, 1) := by decide +kernel
theorem dX0_told_77 : decode cX0_told 77 = .ok (.aload_n 0, 1) := by decide +kernel
theorem dX0_told_78 : decode cX0_told 78 = .ok (.getfield 12, 3) := by decide +kernel
theorem dX0_told_81 : decode cX0_told 81 = .ok (.getfield 43, 3) := by decide +kernel
theorem dX0_told_84 : decode cX0_told 84 = .ok (.ireturn, 1) := by decide +kernel
theorem dX0_told_85 : decode cX0_told 85 = .ok (.aload_n 0, 1) := by decide +kernel
theorem dX0_told_86 : decode cX0_told 86 = .ok (.invokevirtual 55, 3) := by decide +kernel
theorem dX0_told_89 : decode cX0_told 89 = .ok (.ireturn, 1) := by decide +kernel
theorem dX0_told_90 : decode cX0_told 90 = .ok (.aload_n 0, 1) := by decide +kernel
theorem dX0_told_91 : decode cX0_told 91 = .ok (.getfield 12, 3) := by decide +kernel
theorem dX0_told_94 : decode cX0_told 94 = .ok (.iload_n 1, 1) := by decide +kernel
theorem dX0_told_95 : decode cX0_told 95 = .ok (.bipush 10, 2) := by decide +kernel
theorem dX0_told_97 : decode cX0_told 97 = .ok (.isub, 1) := by decide +kernel
theorem dX0_told_98 : decode cX0_told 98 = .ok (.invokevirtual 49, 3) := by decide +kernel
theorem dX0_told_101 : decode cX0_told 101 = .ok (.ireturn, 1) := by decide +kernel
set_option maxRecDepth 20000 in
theorem ggX0_allWishes_X4_wishAt : GoodIn wsX0_allWishes wsX4_wishAt := goodIn_r _ [7, 8, 9, 10, 11, 12, 13, 14, 15, 6, 16, 17, 18, 19, 20, 21, 22, 26, 27, 28, 29, 30, 31, 32] (by decide +kernel) (by decide +kernel)
set_option maxRecDepth 20000 in
theorem gX0_allWishes_X4_wishAt : GoodIn wsX0_allWishes (wsV RX0 49 RX4 yX4_wishAt wsX4_wishAt) := goodIn_app (goodIn_of _ (by decide +kernel)) ggX0_allWishes_X4_wishAt
theorem dX0_allWishes_0 : decode cX0_allWishes 0 = .ok (.iconst 0, 1) := by decide +kernel
theorem dX0_allWishes_1 : decode cX0_allWishes 1 = .ok (.istore_n 1, 1) := by decide +kernel
theorem dX0_allWishes_2 : decode cX0_allWishes 2 = .ok (.iconst 0, 1) := by decide +kernel
theorem dX0_allWishes_3 : decode cX0_allWishes 3 = .ok (.istore_n 2, 1) := by decide +kernel
theorem dX0_allWishes_4 : decode cX0_allWishes 4 = .ok (.iload_n 2, 1) := by decide +kernel
theorem dX0_allWishes_5 : decode cX0_allWishes 5 = .ok (.aload_n 0, 1) := by decide +kernel
theorem dX0_allWishes_6 : decode cX0_allWishes 6 = .ok (.getfield 12, 3) := by decide +kernel
theorem dX0_allWishes_9 : decode cX0_allWishes 9 = .ok (.getfield 46, 3) := by decide +kernel
theorem dX0_allWishes_12 : decode cX0_allWishes 12 = .ok (.if_icmp .ge 22, 3) := by decide +kernel
theorem dX0_allWishes_15 : decode cX0_allWishes 15 = .ok (.iload_n 1, 1) := by decide +kernel
theorem dX0_allWishes_16 : decode cX0_allWishes 16 = .ok (.iconst 1, 1) := by decide +kernel
theorem dX0_allWishes_17 : decode cX0_allWishes 17 = .ok (.aload_n 0, 1) := by decide +kernel
theorem dX0_allWishes_18 : decode cX0_allWishes 18 = .ok (.getfield 12, 3) := by decide +kernel
theorem dX0_allWishes_21 : decode cX0_allWishes 21 = .ok (.iload_n 2, 1) := by decide +kernel
theorem dX0_allWishes_22 : decode cX0_allWishes 22 = .ok (.invokevirtual 49, 3) := by decide +kernel
theorem dX0_allWishes_25 : decode cX0_allWishes 25 = .ok (.ishl, 1) := by decide +kernel
theorem dX0_allWishes_26 : decode cX0_allWishes 26 = .ok (.ior, 1) := by decide +kernel
theorem dX0_allWishes_27 : decode cX0_allWishes 27 = .ok (.istore_n 1, 1) := by decide +kernel
theorem dX0_allWishes_28 : decode cX0_allWishes 28 = .ok (.iinc 2 1, 3) := by decide +kernel
theorem dX0_allWishes_31 : decode cX0_allWishes 31 = .ok (.goto (-27), 3) := by decide +kernel
theorem dX0_allWishes_34 : decode cX0_allWishes 34 = .ok (.iload_n 1, 1) := by decide +kernel
theorem dX0_allWishes_35 : decode cX0_allWishes 35 = .ok (.ireturn, 1) := by decide +kernel
theorem dX1_init_0 : decode cX1_init 0 = .ok (.aload_n 0, 1) := by decide +kernel
theorem dX1_init_1 : decode cX1_init 1 = .ok (.invokespecial 3, 3) := by decide +kernel
theorem dX1_init_4 : decode cX1_init 4 = .ok (.aload_n 0, 1) := by decide +kernel
theorem dX1_init_5 : decode cX1_init 5 = .ok (.bipush 9, 2) := by decide +kernel
theorem dX1_init_7 : decode cX1_init 7 = .ok (.newarray .int, 2) := by decide +kernel
theorem dX1_init_9 : decode cX1_init 9 = .ok (.putfield 9, 3) := by decide +kernel
theorem dX1_init_12 : decode cX1_init 12 = .ok (.aload_n 0, 1) := by decide +kernel
theorem dX1_init_13 : decode cX1_init 13 = .ok (.bipush 9, 2) := by decide +kernel
theorem dX1_init_15 : decode cX1_init 15 = .ok (.newarray .int, 2) := by decide +kernel
theorem dX1_init_17 : decode cX1_init 17 = .ok (.putfield 15, 3) := by decide +kernel
theorem dX1_init_20 : decode cX1_init 20 = .ok (.aload_n 0, 1) := by decide +kernel
theorem dX1_init_21 : decode cX1_init 21 = .ok (.bipush 6, 2) := by decide +kernel
theorem dX1_init_23 : decode cX1_init 23 = .ok (.newarray .int, 2) := by decide +kernel
theorem dX1_init_25 : decode cX1_init 25 = .ok (.putfield 18, 3) := by decide +kernel
theorem dX1_init_28 : decode cX1_init 28 = .ok (.return_, 1) := by decide +kernel
set_option maxRecDepth 20000 in
theorem ggX1_ask_X3_at : GoodIn wsX1_ask wsX3_at := goodIn_r _ [17, 18, 19, 20, 21, 16, 22, 23, 65, 66, 67] (by decide +kernel) (by decide +kernel)
set_option maxRecDepth 20000 in
theorem gX1_ask_X3_at : GoodIn wsX1_ask (wsV RX1 34 RX3 yX3_at wsX3_at) := goodIn_app (goodIn_of _ (by decide +kernel)) ggX1_ask_X3_at
set_option maxRecDepth 20000 in
theorem ggX1_ask_X4_turnAt : GoodIn wsX1_ask wsX4_turnAt := goodIn_r _ [28, 29, 30, 31, 32, 33, 27, 34, 35, 36, 37, 38, 53, 54, 55, 56, 57, 58, 59] (by decide +kernel) (by decide +kernel)
set_option maxRecDepth 20000 in
theorem gX1_ask_X4_turnAt : GoodIn wsX1_ask (wsV RX1 43 RX4 yX4_turnAt wsX4_turnAt) := goodIn_app (goodIn_of _ (by decide +kernel)) ggX1_ask_X4_turnAt
set_option maxRecDepth 20000 in
theorem ggX1_ask_J9_floorMod_7cf53 : GoodIn wsX1_ask wsJ9_floorMod_7cf53 := goodIn_r _ [42] (by decide +kernel) (by decide +kernel)
set_option maxRecDepth 20000 in
theorem gX1_ask_J9_floorMod_7cf53 : GoodIn wsX1_ask (va_wsS RX1 46 yJ9_floorMod_7cf53 wsJ9_floorMod_7cf53) := goodIn_app (goodIn_of _ (by decide +kernel)) ggX1_ask_J9_floorMod_7cf53
set_option maxRecDepth 20000 in
theorem ggX1_ask_X4_yearAt : GoodIn wsX1_ask wsX4_yearAt := goodIn_r _ [46, 47, 31, 32, 33, 27, 34, 35, 53, 54, 55, 56, 57, 58, 59] (by decide +kernel) (by decide +kernel)
set_option maxRecDepth 20000 in
theorem gX1_ask_X4_yearAt : GoodIn wsX1_ask (wsV RX1 52 RX4 yX4_yearAt wsX4_yearAt) := goodIn_app (goodIn_of _ (by decide +kernel)) ggX1_ask_X4_yearAt
set_option maxRecDepth 20000 in
theorem ggX1_ask_X1_countWays : GoodIn wsX1_ask wsX1_countWays := goodIn_r _ [52, 6, 10, 7, 60, 61, 62, 63, 64] (by decide +kernel) (by decide +kernel)
set_option maxRecDepth 20000 in
theorem gX1_ask_X1_countWays : GoodIn wsX1_ask (wsV RX1 55 RX1 yX1_countWays wsX1_countWays) := goodIn_app (goodIn_of _ (by decide +kernel)) ggX1_ask_X1_countWays
theorem dX1_ask_0 : decode cX1_ask 0 = .ok (.aload_n 0, 1) := by decide +kernel
theorem dX1_ask_1 : decode cX1_ask 1 = .ok (.aload_n 1, 1) := by decide +kernel
theorem dX1_ask_2 : decode cX1_ask 2 = .ok (.getfield 21, 3) := by decide +kernel
theorem dX1_ask_5 : decode cX1_ask 5 = .ok (.bipush 9, 2) := by decide +kernel
theorem dX1_ask_7 : decode cX1_ask 7 = .ok (.invokestatic 27, 3) := by decide +kernel
theorem dX1_ask_10 : decode cX1_ask 10 = .ok (.putfield 33, 3) := by decide +kernel
theorem dX1_ask_13 : decode cX1_ask 13 = .ok (.iconst 0, 1) := by decide +kernel
theorem dX1_ask_14 : decode cX1_ask 14 = .ok (.istore 4, 2) := by decide +kernel
theorem dX1_ask_16 : decode cX1_ask 16 = .ok (.iload 4, 2) := by decide +kernel
theorem dX1_ask_18 : decode cX1_ask 18 = .ok (.bipush 6, 2) := by decide +kernel
theorem dX1_ask_20 : decode cX1_ask 20 = .ok (.if_icmp .ge 17, 3) := by decide +kernel
theorem dX1_ask_23 : decode cX1_ask 23 = .ok (.aload_n 0, 1) := by decide +kernel
theorem dX1_ask_24 : decode cX1_ask 24 = .ok (.getfield 18, 3) := by decide +kernel
theorem dX1_ask_27 : decode cX1_ask 27 = .ok (.iload 4, 2) := by decide +kernel
theorem dX1_ask_29 : decode cX1_ask 29 = .ok (.iconst 0, 1) := by decide +kernel
theorem dX1_ask_30 : decode cX1_ask 30 = .ok (.iastore, 1) := by decide +kernel
theorem dX1_ask_31 : decode cX1_ask 31 = .ok (.iinc 4 1, 3) := by decide +kernel
theorem dX1_ask_34 : decode cX1_ask 34 = .ok (.goto (-18), 3) := by decide +kernel
theorem dX1_ask_37 : decode cX1_ask 37 = .ok (.iconst 0, 1) := by decide +kernel
theorem dX1_ask_38 : decode cX1_ask 38 = .ok (.istore 4, 2) := by decide +kernel
theorem dX1_ask_40 : decode cX1_ask 40 = .ok (.iload 4, 2) := by decide +kernel
theorem dX1_ask_42 : decode cX1_ask 42 = .ok (.aload_n 0, 1) := by decide +kernel
theorem dX1_ask_43 : decode cX1_ask 43 = .ok (.getfield 33, 3) := by decide +kernel
theorem dX1_ask_46 : decode cX1_ask 46 = .ok (.if_icmp .ge 96, 3) := by decide +kernel
theorem dX1_ask_49 : decode cX1_ask 49 = .ok (.aload_n 2, 1) := by decide +kernel
theorem dX1_ask_50 : decode cX1_ask 50 = .ok (.iload_n 3, 1) := by decide +kernel
theorem dX1_ask_51 : decode cX1_ask 51 = .ok (.iload 4, 2) := by decide +kernel
theorem dX1_ask_53 : decode cX1_ask 53 = .ok (.iadd, 1) := by decide +kernel
theorem dX1_ask_54 : decode cX1_ask 54 = .ok (.invokevirtual 34, 3) := by decide +kernel
theorem dX1_ask_57 : decode cX1_ask 57 = .ok (.istore 5, 2) := by decide +kernel
theorem dX1_ask_59 : decode cX1_ask 59 = .ok (.aload_n 0, 1) := by decide +kernel
theorem dX1_ask_60 : decode cX1_ask 60 = .ok (.getfield 9, 3) := by decide +kernel
theorem dX1_ask_63 : decode cX1_ask 63 = .ok (.iload 4, 2) := by decide +kernel
theorem dX1_ask_65 : decode cX1_ask 65 = .ok (.aload_n 1, 1) := by decide +kernel
theorem dX1_ask_66 : decode cX1_ask 66 = .ok (.getfield 40, 3) := by decide +kernel
theorem dX1_ask_69 : decode cX1_ask 69 = .ok (.aload_n 1, 1) := by decide +kernel
theorem dX1_ask_70 : decode cX1_ask 70 = .ok (.iload 4, 2) := by decide +kernel
theorem dX1_ask_72 : decode cX1_ask 72 = .ok (.invokevirtual 43, 3) := by decide +kernel
theorem dX1_ask_75 : decode cX1_ask 75 = .ok (.imul, 1) := by decide +kernel
theorem dX1_ask_76 : decode cX1_ask 76 = .ok (.bipush 6, 2) := by decide +kernel
theorem dX1_ask_78 : decode cX1_ask 78 = .ok (.invokestatic 46, 3) := by decide +kernel
theorem dX1_ask_81 : decode cX1_ask 81 = .ok (.iastore, 1) := by decide +kernel
theorem dX1_ask_82 : decode cX1_ask 82 = .ok (.aload_n 0, 1) := by decide +kernel
theorem dX1_ask_83 : decode cX1_ask 83 = .ok (.getfield 15, 3) := by decide +kernel
theorem dX1_ask_86 : decode cX1_ask 86 = .ok (.iload 4, 2) := by decide +kernel
theorem dX1_ask_88 : decode cX1_ask 88 = .ok (.iload 5, 2) := by decide +kernel
theorem dX1_ask_90 : decode cX1_ask 90 = .ok (.bipush 6, 2) := by decide +kernel
theorem dX1_ask_92 : decode cX1_ask 92 = .ok (.if_icmp .ne 8, 3) := by decide +kernel
theorem dX1_ask_95 : decode cX1_ask 95 = .ok (.bipush 6, 2) := by decide +kernel
theorem dX1_ask_97 : decode cX1_ask 97 = .ok (.goto 22, 3) := by decide +kernel
theorem dX1_ask_100 : decode cX1_ask 100 = .ok (.iload 5, 2) := by decide +kernel
theorem dX1_ask_102 : decode cX1_ask 102 = .ok (.aload_n 1, 1) := by decide +kernel
theorem dX1_ask_103 : decode cX1_ask 103 = .ok (.getfield 49, 3) := by decide +kernel
theorem dX1_ask_106 : decode cX1_ask 106 = .ok (.aload_n 1, 1) := by decide +kernel
theorem dX1_ask_107 : decode cX1_ask 107 = .ok (.iload 4, 2) := by decide +kernel
theorem dX1_ask_109 : decode cX1_ask 109 = .ok (.invokevirtual 52, 3) := by decide +kernel
theorem dX1_ask_112 : decode cX1_ask 112 = .ok (.imul, 1) := by decide +kernel
theorem dX1_ask_113 : decode cX1_ask 113 = .ok (.isub, 1) := by decide +kernel
theorem dX1_ask_114 : decode cX1_ask 114 = .ok (.bipush 6, 2) := by decide +kernel
theorem dX1_ask_116 : decode cX1_ask 116 = .ok (.invokestatic 46, 3) := by decide +kernel
theorem dX1_ask_119 : decode cX1_ask 119 = .ok (.iastore, 1) := by decide +kernel
theorem dX1_ask_120 : decode cX1_ask 120 = .ok (.aload_n 0, 1) := by decide +kernel
theorem dX1_ask_121 : decode cX1_ask 121 = .ok (.getfield 18, 3) := by decide +kernel
theorem dX1_ask_124 : decode cX1_ask 124 = .ok (.aload_n 0, 1) := by decide +kernel
theorem dX1_ask_125 : decode cX1_ask 125 = .ok (.getfield 9, 3) := by decide +kernel
theorem dX1_ask_128 : decode cX1_ask 128 = .ok (.iload 4, 2) := by decide +kernel
theorem dX1_ask_130 : decode cX1_ask 130 = .ok (.iaload, 1) := by decide +kernel
theorem dX1_ask_131 : decode cX1_ask 131 = .ok (.dup2, 1) := by decide +kernel
theorem dX1_ask_132 : decode cX1_ask 132 = .ok (.iaload, 1) := by decide +kernel
theorem dX1_ask_133 : decode cX1_ask 133 = .ok (.iconst 1, 1) := by decide +kernel
theorem dX1_ask_134 : decode cX1_ask 134 = .ok (.iadd, 1) := by decide +kernel
theorem dX1_ask_135 : decode cX1_ask 135 = .ok (.iastore, 1) := by decide +kernel
theorem dX1_ask_136 : decode cX1_ask 136 = .ok (.iinc 4 1, 3) := by decide +kernel
theorem dX1_ask_139 : decode cX1_ask 139 = .ok (.goto (-99), 3) := by decide +kernel
theorem dX1_ask_142 : decode cX1_ask 142 = .ok (.aload_n 0, 1) := by decide +kernel
theorem dX1_ask_143 : decode cX1_ask 143 = .ok (.aload_n 0, 1) := by decide +kernel
theorem dX1_ask_144 : decode cX1_ask 144 = .ok (.invokevirtual 55, 3) := by decide +kernel
theorem dX1_ask_147 : decode cX1_ask 147 = .ok (.putfield 59, 3) := by decide +kernel
theorem dX1_ask_150 : decode cX1_ask 150 = .ok (.return_, 1) := by decide +kernel
theorem dX1_countWays_0 : decode cX1_countWays 0 = .ok (.iconst 1, 1) := by decide +kernel
theorem dX1_countWays_1 : decode cX1_countWays 1 = .ok (.istore_n 1, 1) := by decide +kernel
theorem dX1_countWays_2 : decode cX1_countWays 2 = .ok (.iconst 0, 1) := by decide +kernel
theorem dX1_countWays_3 : decode cX1_countWays 3 = .ok (.istore_n 2, 1) := by decide +kernel
theorem dX1_countWays_4 : decode cX1_countWays 4 = .ok (.iconst 0, 1) := by decide +kernel
theorem dX1_countWays_5 : decode cX1_countWays 5 = .ok (.istore_n 3, 1) := by decide +kernel
theorem dX1_countWays_6 : decode cX1_countWays 6 = .ok (.iload_n 3, 1) := by decide +kernel
theorem dX1_countWays_7 : decode cX1_countWays 7 = .ok (.aload_n 0, 1) := by decide +kernel
theorem dX1_countWays_8 : decode cX1_countWays 8 = .ok (.getfield 33, 3) := by decide +kernel
theorem dX1_countWays_11 : decode cX1_countWays 11 = .ok (.if_icmp .ge 68, 3) := by decide +kernel
theorem dX1_countWays_14 : decode cX1_countWays 14 = .ok (.aload_n 0, 1) := by decide +kernel
theorem dX1_countWays_15 : decode cX1_countWays 15 = .ok (.getfield 15, 3) := by decide +kernel
theorem dX1_countWays_18 : decode cX1_countWays 18 = .ok (.iload_n 3, 1) := by decide +kernel
theorem dX1_countWays_19 : decode cX1_countWays 19 = .ok (.iaload, 1) := by decide +kernel
theorem dX1_countWays_20 : decode cX1_countWays 20 = .ok (.istore 4, 2) := by decide +kernel
theorem dX1_countWays_22 : decode cX1_countWays 22 = .ok (.iload 4, 2) := by decide +kernel
theorem dX1_countWays_24 : decode cX1_countWays 24 = .ok (.bipush 6, 2) := by decide +kernel
theorem dX1_countWays_26 : decode cX1_countWays 26 = .ok (.if_icmp .ne 13, 3) := by decide +kernel
theorem dX1_countWays_29 : decode cX1_countWays 29 = .ok (.iinc 2 1, 3) := by decide +kernel
theorem dX1_countWays_32 : decode cX1_countWays 32 = .ok (.iload_n 1, 1) := by decide +kernel
theorem dX1_countWays_33 : decode cX1_countWays 33 = .ok (.iload_n 2, 1) := by decide +kernel
theorem dX1_countWays_34 : decode cX1_countWays 34 = .ok (.imul, 1) := by decide +kernel
theorem dX1_countWays_35 : decode cX1_countWays 35 = .ok (.istore_n 1, 1) := by decide +kernel
theorem dX1_countWays_36 : decode cX1_countWays 36 = .ok (.goto 37, 3) := by decide +kernel
theorem dX1_countWays_39 : decode cX1_countWays 39 = .ok (.aload_n 0, 1) := by decide +kernel
theorem dX1_countWays_40 : decode cX1_countWays 40 = .ok (.getfield 18, 3) := by decide +kernel
theorem dX1_countWays_43 : decode cX1_countWays 43 = .ok (.iload 4, 2) := by decide +kernel
theorem dX1_countWays_45 : decode cX1_countWays 45 = .ok (.iaload, 1) := by decide +kernel
theorem dX1_countWays_46 : decode cX1_countWays 46 = .ok (.iconst 1, 1) := by decide +kernel
theorem dX1_countWays_47 : decode cX1_countWays 47 = .ok (.if_icmp .ge 5, 3) := by decide +kernel
theorem dX1_countWays_50 : decode cX1_countWays 50 = .ok (.iconst 0, 1) := by decide +kernel
theorem dX1_countWays_51 : decode cX1_countWays 51 = .ok (.ireturn, 1) := by decide +kernel
theorem dX1_countWays_52 : decode cX1_countWays 52 = .ok (.iload_n 1, 1) := by decide +kernel
theorem dX1_countWays_53 : decode cX1_countWays 53 = .ok (.aload_n 0, 1) := by decide +kernel
theorem dX1_countWays_54 : decode cX1_countWays 54 = .ok (.getfield 18, 3) := by decide +kernel
theorem dX1_countWays_57 : decode cX1_countWays 57 = .ok (.iload 4, 2) := by decide +kernel
theorem dX1_countWays_59 : decode cX1_countWays 59 = .ok (.iaload, 1) := by decide +kernel
theorem dX1_countWays_60 : decode cX1_countWays 60 = .ok (.imul, 1) := by decide +kernel
theorem dX1_countWays_61 : decode cX1_countWays 61 = .ok (.istore_n 1, 1) := by decide +kernel
theorem dX1_countWays_62 : decode cX1_countWays 62 = .ok (.aload_n 0, 1) := by decide +kernel
theorem dX1_countWays_63 : decode cX1_countWays 63 = .ok (.getfield 18, 3) := by decide +kernel
theorem dX1_countWays_66 : decode cX1_countWays 66 = .ok (.iload 4, 2) := by decide +kernel
theorem dX1_countWays_68 : decode cX1_countWays 68 = .ok (.dup2, 1) := by decide +kernel
theorem dX1_countWays_69 : decode cX1_countWays 69 = .ok (.iaload, 1) := by decide +kernel
theorem dX1_countWays_70 : decode cX1_countWays 70 = .ok (.iconst 1, 1) := by decide +kernel
theorem dX1_countWays_71 : decode cX1_countWays 71 = .ok (.isub, 1) := by decide +kernel
theorem dX1_countWays_72 : decode cX1_countWays 72 = .ok (.iastore, 1) := by decide +kernel
theorem dX1_countWays_73 : decode cX1_countWays 73 = .ok (.iinc 3 1, 3) := by decide +kernel
theorem dX1_countWays_76 : decode cX1_countWays 76 = .ok (.goto (-70), 3) := by decide +kernel
theorem dX1_countWays_79 : decode cX1_countWays 79 = .ok (.iload_n 1, 1) := by decide +kernel
theorem dX1_countWays_80 : decode cX1_countWays 80 = .ok (.ireturn, 1) := by decide +kernel
set_option maxRecDepth 20000 in
theorem ggX1_firstAt_X1_leastFor : GoodIn wsX1_firstAt wsX1_leastFor := goodIn_r _ [8, 2, 9, 10, 11, 12, 13, 14, 15] (by decide +kernel) (by decide +kernel)
set_option maxRecDepth 20000 in
theorem gX1_firstAt_X1_leastFor : GoodIn wsX1_firstAt (wsV RX1 62 RX1 yX1_leastFor wsX1_leastFor) := goodIn_app (goodIn_of _ (by decide +kernel)) ggX1_firstAt_X1_leastFor
theorem dX1_firstAt_0 : decode cX1_firstAt 0 = .ok (.aload_n 0, 1) := by decide +kernel
theorem dX1_firstAt_1 : decode cX1_firstAt 1 = .ok (.getfield 59, 3) := by decide +kernel
theorem dX1_firstAt_4 : decode cX1_firstAt 4 = .ok (.ifCond .ne 6, 3) := by decide +kernel
theorem dX1_firstAt_7 : decode cX1_firstAt 7 = .ok (.bipush (-9), 2) := by decide +kernel
theorem dX1_firstAt_9 : decode cX1_firstAt 9 = .ok (.ireturn, 1) := by decide +kernel
theorem dX1_firstAt_10 : decode cX1_firstAt 10 = .ok (.iconst 0, 1) := by decide +kernel
theorem dX1_firstAt_11 : decode cX1_firstAt 11 = .ok (.istore_n 2, 1) := by decide +kernel
theorem dX1_firstAt_12 : decode cX1_firstAt 12 = .ok (.iconst 0, 1) := by decide +kernel
theorem dX1_firstAt_13 : decode cX1_firstAt 13 = .ok (.istore_n 3, 1) := by decide +kernel
theorem dX1_firstAt_14 : decode cX1_firstAt 14 = .ok (.iload_n 3, 1) := by decide +kernel
theorem dX1_firstAt_15 : decode cX1_firstAt 15 = .ok (.aload_n 0, 1) := by decide +kernel
theorem dX1_firstAt_16 : decode cX1_firstAt 16 = .ok (.getfield 33, 3) := by decide +kernel
theorem dX1_firstAt_19 : decode cX1_firstAt 19 = .ok (.if_icmp .ge 44, 3) := by decide +kernel
theorem dX1_firstAt_22 : decode cX1_firstAt 22 = .ok (.aload_n 0, 1) := by decide +kernel
theorem dX1_firstAt_23 : decode cX1_firstAt 23 = .ok (.aload_n 0, 1) := by decide +kernel
theorem dX1_firstAt_24 : decode cX1_firstAt 24 = .ok (.getfield 15, 3) := by decide +kernel
theorem dX1_firstAt_27 : decode cX1_firstAt 27 = .ok (.iload_n 3, 1) := by decide +kernel
theorem dX1_firstAt_28 : decode cX1_firstAt 28 = .ok (.iaload, 1) := by decide +kernel
theorem dX1_firstAt_29 : decode cX1_firstAt 29 = .ok (.iload_n 2, 1) := by decide +kernel
theorem dX1_firstAt_30 : decode cX1_firstAt 30 = .ok (.invokevirtual 62, 3) := by decide +kernel
theorem dX1_firstAt_33 : decode cX1_firstAt 33 = .ok (.istore 4, 2) := by decide +kernel
theorem dX1_firstAt_35 : decode cX1_firstAt 35 = .ok (.iload_n 3, 1) := by decide +kernel
theorem dX1_firstAt_36 : decode cX1_firstAt 36 = .ok (.iload_n 1, 1) := by decide +kernel
theorem dX1_firstAt_37 : decode cX1_firstAt 37 = .ok (.if_icmp .eq 10, 3) := by decide +kernel
theorem dX1_firstAt_40 : decode cX1_firstAt 40 = .ok (.iload 4, 2) := by decide +kernel
theorem dX1_firstAt_42 : decode cX1_firstAt 42 = .ok (.bipush (-9), 2) := by decide +kernel
theorem dX1_firstAt_44 : decode cX1_firstAt 44 = .ok (.if_icmp .ne 6, 3) := by decide +kernel
theorem dX1_firstAt_47 : decode cX1_firstAt 47 = .ok (.iload 4, 2) := by decide +kernel
theorem dX1_firstAt_49 : decode cX1_firstAt 49 = .ok (.ireturn, 1) := by decide +kernel
theorem dX1_firstAt_50 : decode cX1_firstAt 50 = .ok (.iload_n 2, 1) := by decide +kernel
theorem dX1_firstAt_51 : decode cX1_firstAt 51 = .ok (.iconst 1, 1) := by decide +kernel
theorem dX1_firstAt_52 : decode cX1_firstAt 52 = .ok (.iload 4, 2) := by decide +kernel
theorem dX1_firstAt_54 : decode cX1_firstAt 54 = .ok (.ishl, 1) := by decide +kernel
theorem dX1_firstAt_55 : decode cX1_firstAt 55 = .ok (.ior, 1) := by decide +kernel
theorem dX1_firstAt_56 : decode cX1_firstAt 56 = .ok (.istore_n 2, 1) := by decide +kernel
theorem dX1_firstAt_57 : decode cX1_firstAt 57 = .ok (.iinc 3 1, 3) := by decide +kernel
theorem dX1_firstAt_60 : decode cX1_firstAt 60 = .ok (.goto (-46), 3) := by decide +kernel
theorem dX1_firstAt_63 : decode cX1_firstAt 63 = .ok (.bipush (-9), 2) := by decide +kernel
theorem dX1_firstAt_65 : decode cX1_firstAt 65 = .ok (.ireturn, 1) := by decide +kernel
theorem dX1_leastFor_0 : decode cX1_leastFor 0 = .ok (.iconst 0, 1) := by decide +kernel
theorem dX1_leastFor_1 : decode cX1_leastFor 1 = .ok (.istore_n 3, 1) := by decide +kernel
theorem dX1_leastFor_2 : decode cX1_leastFor 2 = .ok (.iload_n 3, 1) := by decide +kernel
theorem dX1_leastFor_3 : decode cX1_leastFor 3 = .ok (.aload_n 0, 1) := by decide +kernel
theorem dX1_leastFor_4 : decode cX1_leastFor 4 = .ok (.getfield 33, 3) := by decide +kernel
theorem dX1_leastFor_7 : decode cX1_leastFor 7 = .ok (.if_icmp .ge 79, 3) := by decide +kernel
theorem dX1_leastFor_10 : decode cX1_leastFor 10 = .ok (.aload_n 0, 1) := by decide +kernel
theorem dX1_leastFor_11 : decode cX1_leastFor 11 = .ok (.getfield 9, 3) := by decide +kernel
theorem dX1_leastFor_14 : decode cX1_leastFor 14 = .ok (.iload_n 3, 1) := by decide +kernel
theorem dX1_leastFor_15 : decode cX1_leastFor 15 = .ok (.iaload, 1) := by decide +kernel
theorem dX1_leastFor_16 : decode cX1_leastFor 16 = .ok (.istore 4, 2) := by decide +kernel
theorem dX1_leastFor_18 : decode cX1_leastFor 18 = .ok (.iload_n 2, 1) := by decide +kernel
theorem dX1_leastFor_19 : decode cX1_leastFor 19 = .ok (.iconst 1, 1) := by decide +kernel
theorem dX1_leastFor_20 : decode cX1_leastFor 20 = .ok (.iload_n 3, 1) := by decide +kernel
theorem dX1_leastFor_21 : decode cX1_leastFor 21 = .ok (.ishl, 1) := by decide +kernel
theorem dX1_leastFor_22 : decode cX1_leastFor 22 = .ok (.iand, 1) := by decide +kernel
theorem dX1_leastFor_23 : decode cX1_leastFor 23 = .ok (.ifCond .ne 7, 3) := by decide +kernel
theorem dX1_leastFor_26 : decode cX1_leastFor 26 = .ok (.iconst 1, 1) := by decide +kernel
theorem dX1_leastFor_27 : decode cX1_leastFor 27 = .ok (.goto 4, 3) := by decide +kernel
theorem dX1_leastFor_30 : decode cX1_leastFor 30 = .ok (.iconst 0, 1) := by decide +kernel
theorem dX1_leastFor_31 : decode cX1_leastFor 31 = .ok (.istore 5, 2) := by decide +kernel
theorem dX1_leastFor_33 : decode cX1_leastFor 33 = .ok (.iload 5, 2) := by decide +kernel
theorem dX1_leastFor_35 : decode cX1_leastFor 35 = .ok (.ifCond .eq 11, 3) := by decide +kernel
theorem dX1_leastFor_38 : decode cX1_leastFor 38 = .ok (.iload_n 1, 1) := by decide +kernel
theorem dX1_leastFor_39 : decode cX1_leastFor 39 = .ok (.iload 4, 2) := by decide +kernel
theorem dX1_leastFor_41 : decode cX1_leastFor 41 = .ok (.if_icmp .ne 5, 3) := by decide +kernel
theorem dX1_leastFor_44 : decode cX1_leastFor 44 = .ok (.iload_n 3, 1) := by decide +kernel
theorem dX1_leastFor_45 : decode cX1_leastFor 45 = .ok (.ireturn, 1) := by decide +kernel
theorem dX1_leastFor_46 : decode cX1_leastFor 46 = .ok (.iload 5, 2) := by decide +kernel
theorem dX1_leastFor_48 : decode cX1_leastFor 48 = .ok (.ifCond .eq 32, 3) := by decide +kernel
theorem dX1_leastFor_51 : decode cX1_leastFor 51 = .ok (.iload_n 1, 1) := by decide +kernel
theorem dX1_leastFor_52 : decode cX1_leastFor 52 = .ok (.bipush 6, 2) := by decide +kernel
theorem dX1_leastFor_54 : decode cX1_leastFor 54 = .ok (.if_icmp .ne 26, 3) := by decide +kernel
theorem dX1_leastFor_57 : decode cX1_leastFor 57 = .ok (.aload_n 0, 1) := by decide +kernel
theorem dX1_leastFor_58 : decode cX1_leastFor 58 = .ok (.getfield 18, 3) := by decide +kernel
theorem dX1_leastFor_61 : decode cX1_leastFor 61 = .ok (.iload 4, 2) := by decide +kernel
theorem dX1_leastFor_63 : decode cX1_leastFor 63 = .ok (.iaload, 1) := by decide +kernel
theorem dX1_leastFor_64 : decode cX1_leastFor 64 = .ok (.ifCond .le 16, 3) := by decide +kernel
theorem dX1_leastFor_67 : decode cX1_leastFor 67 = .ok (.aload_n 0, 1) := by decide +kernel
theorem dX1_leastFor_68 : decode cX1_leastFor 68 = .ok (.getfield 18, 3) := by decide +kernel
theorem dX1_leastFor_71 : decode cX1_leastFor 71 = .ok (.iload 4, 2) := by decide +kernel
theorem dX1_leastFor_73 : decode cX1_leastFor 73 = .ok (.dup2, 1) := by decide +kernel
theorem dX1_leastFor_74 : decode cX1_leastFor 74 = .ok (.iaload, 1) := by decide +kernel
theorem dX1_leastFor_75 : decode cX1_leastFor 75 = .ok (.iconst 1, 1) := by decide +kernel
theorem dX1_leastFor_76 : decode cX1_leastFor 76 = .ok (.isub, 1) := by decide +kernel
theorem dX1_leastFor_77 : decode cX1_leastFor 77 = .ok (.iastore, 1) := by decide +kernel
theorem dX1_leastFor_78 : decode cX1_leastFor 78 = .ok (.iload_n 3, 1) := by decide +kernel
theorem dX1_leastFor_79 : decode cX1_leastFor 79 = .ok (.ireturn, 1) := by decide +kernel
theorem dX1_leastFor_80 : decode cX1_leastFor 80 = .ok (.iinc 3 1, 3) := by decide +kernel
theorem dX1_leastFor_83 : decode cX1_leastFor 83 = .ok (.goto (-81), 3) := by decide +kernel
theorem dX1_leastFor_86 : decode cX1_leastFor 86 = .ok (.bipush (-9), 2) := by decide +kernel
theorem dX1_leastFor_88 : decode cX1_leastFor 88 = .ok (.ireturn, 1) := by decide +kernel
theorem dX2_init_0 : decode cX2_init 0 = .ok (.aload_n 0, 1) := by decide +kernel
theorem dX2_init_1 : decode cX2_init 1 = .ok (.invokespecial 3, 3) := by decide +kernel
theorem dX2_init_4 : decode cX2_init 4 = .ok (.aload_n 0, 1) := by decide +kernel
theorem dX2_init_5 : decode cX2_init 5 = .ok (.bipush 8, 2) := by decide +kernel
theorem dX2_init_7 : decode cX2_init 7 = .ok (.newarray .int, 2) := by decide +kernel
theorem dX2_init_9 : decode cX2_init 9 = .ok (.putfield 9, 3) := by decide +kernel
theorem dX2_init_12 : decode cX2_init 12 = .ok (.aload_n 0, 1) := by decide +kernel
theorem dX2_init_13 : decode cX2_init 13 = .ok (.bipush 8, 2) := by decide +kernel
theorem dX2_init_15 : decode cX2_init 15 = .ok (.newarray .int, 2) := by decide +kernel
theorem dX2_init_17 : decode cX2_init 17 = .ok (.putfield 15, 3) := by decide +kernel
theorem dX2_init_20 : decode cX2_init 20 = .ok (.return_, 1) := by decide +kernel
theorem dX2_clear_0 : decode cX2_clear 0 = .ok (.aload_n 0, 1) := by decide +kernel
theorem dX2_clear_1 : decode cX2_clear 1 = .ok (.iconst 0, 1) := by decide +kernel
theorem dX2_clear_2 : decode cX2_clear 2 = .ok (.putfield 18, 3) := by decide +kernel
theorem dX2_clear_5 : decode cX2_clear 5 = .ok (.return_, 1) := by decide +kernel
theorem dX2_add_0 : decode cX2_add 0 = .ok (.aload_n 0, 1) := by decide +kernel
theorem dX2_add_1 : decode cX2_add 1 = .ok (.getfield 18, 3) := by decide +kernel
theorem dX2_add_4 : decode cX2_add 4 = .ok (.ifCond .lt 12, 3) := by decide +kernel
theorem dX2_add_7 : decode cX2_add 7 = .ok (.aload_n 0, 1) := by decide +kernel
theorem dX2_add_8 : decode cX2_add 8 = .ok (.getfield 18, 3) := by decide +kernel
theorem dX2_add_11 : decode cX2_add 11 = .ok (.bipush 8, 2) := by decide +kernel
theorem dX2_add_13 : decode cX2_add 13 = .ok (.if_icmp .lt 5, 3) := by decide +kernel
theorem dX2_add_16 : decode cX2_add 16 = .ok (.iconst 0, 1) := by decide +kernel
theorem dX2_add_17 : decode cX2_add 17 = .ok (.ireturn, 1) := by decide +kernel
theorem dX2_add_18 : decode cX2_add 18 = .ok (.aload_n 0, 1) := by decide +kernel
theorem dX2_add_19 : decode cX2_add 19 = .ok (.getfield 9, 3) := by decide +kernel
theorem dX2_add_22 : decode cX2_add 22 = .ok (.aload_n 0, 1) := by decide +kernel
theorem dX2_add_23 : decode cX2_add 23 = .ok (.getfield 18, 3) := by decide +kernel
theorem dX2_add_26 : decode cX2_add 26 = .ok (.iload_n 1, 1) := by decide +kernel
theorem dX2_add_27 : decode cX2_add 27 = .ok (.iastore, 1) := by decide +kernel
theorem dX2_add_28 : decode cX2_add 28 = .ok (.aload_n 0, 1) := by decide +kernel
theorem dX2_add_29 : decode cX2_add 29 = .ok (.getfield 15, 3) := by decide +kernel
theorem dX2_add_32 : decode cX2_add 32 = .ok (.aload_n 0, 1) := by decide +kernel
theorem dX2_add_33 : decode cX2_add 33 = .ok (.getfield 18, 3) := by decide +kernel
theorem dX2_add_36 : decode cX2_add 36 = .ok (.iload_n 2, 1) := by decide +kernel
theorem dX2_add_37 : decode cX2_add 37 = .ok (.iastore, 1) := by decide +kernel
theorem dX2_add_38 : decode cX2_add 38 = .ok (.aload_n 0, 1) := by decide +kernel
theorem dX2_add_39 : decode cX2_add 39 = .ok (.dup, 1) := by decide +kernel
theorem dX2_add_40 : decode cX2_add 40 = .ok (.getfield 18, 3) := by decide +kernel
theorem dX2_add_43 : decode cX2_add 43 = .ok (.iconst 1, 1) := by decide +kernel
theorem dX2_add_44 : decode cX2_add 44 = .ok (.iadd, 1) := by decide +kernel
theorem dX2_add_45 : decode cX2_add 45 = .ok (.putfield 18, 3) := by decide +kernel
theorem dX2_add_48 : decode cX2_add 48 = .ok (.iconst 1, 1) := by decide +kernel
theorem dX2_add_49 : decode cX2_add 49 = .ok (.ireturn, 1) := by decide +kernel
set_option maxRecDepth 20000 in
theorem ggX2_areSoWith_X4_turnAt : GoodIn wsX2_areSoWith wsX4_turnAt := goodIn_r _ [10, 11, 12, 13, 14, 15, 9, 16, 17, 18, 19, 20, 31, 32, 33, 34, 35, 36, 37] (by decide +kernel) (by decide +kernel)
set_option maxRecDepth 20000 in
theorem gX2_areSoWith_X4_turnAt : GoodIn wsX2_areSoWith (wsV RX2 22 RX4 yX4_turnAt wsX4_turnAt) := goodIn_app (goodIn_of _ (by decide +kernel)) ggX2_areSoWith_X4_turnAt
set_option maxRecDepth 20000 in
theorem ggX2_areSoWith_X4_yearAt : GoodIn wsX2_areSoWith wsX4_yearAt := goodIn_r _ [24, 25, 13, 14, 15, 9, 16, 17, 31, 32, 33, 34, 35, 36, 37] (by decide +kernel) (by decide +kernel)
set_option maxRecDepth 20000 in
theorem gX2_areSoWith_X4_yearAt : GoodIn wsX2_areSoWith (wsV RX2 34 RX4 yX4_yearAt wsX4_yearAt) := goodIn_app (goodIn_of _ (by decide +kernel)) ggX2_areSoWith_X4_yearAt
set_option maxRecDepth 20000 in
theorem ggX2_areSoWith_X5_wishOf : GoodIn wsX2_areSoWith wsX5_wishOf := goodIn_r _ [27] (by decide +kernel) (by decide +kernel)
set_option maxRecDepth 20000 in
theorem gX2_areSoWith_X5_wishOf_n37 : GoodIn wsX2_areSoWith (wsX5_wishOf) := ggX2_areSoWith_X5_wishOf
theorem dX2_areSoWith_0 : decode cX2_areSoWith 0 = .ok (.iconst 0, 1) := by decide +kernel
theorem dX2_areSoWith_1 : decode cX2_areSoWith 1 = .ok (.istore 4, 2) := by decide +kernel
theorem dX2_areSoWith_3 : decode cX2_areSoWith 3 = .ok (.iload 4, 2) := by decide +kernel
theorem dX2_areSoWith_5 : decode cX2_areSoWith 5 = .ok (.aload_n 0, 1) := by decide +kernel
theorem dX2_areSoWith_6 : decode cX2_areSoWith 6 = .ok (.getfield 18, 3) := by decide +kernel
theorem dX2_areSoWith_9 : decode cX2_areSoWith 9 = .ok (.if_icmp .ge 74, 3) := by decide +kernel
theorem dX2_areSoWith_12 : decode cX2_areSoWith 12 = .ok (.iload 4, 2) := by decide +kernel
theorem dX2_areSoWith_14 : decode cX2_areSoWith 14 = .ok (.bipush 8, 2) := by decide +kernel
theorem dX2_areSoWith_16 : decode cX2_areSoWith 16 = .ok (.if_icmp .ge 67, 3) := by decide +kernel
theorem dX2_areSoWith_19 : decode cX2_areSoWith 19 = .ok (.aload_n 0, 1) := by decide +kernel
theorem dX2_areSoWith_20 : decode cX2_areSoWith 20 = .ok (.getfield 9, 3) := by decide +kernel
theorem dX2_areSoWith_23 : decode cX2_areSoWith 23 = .ok (.iload 4, 2) := by decide +kernel
theorem dX2_areSoWith_25 : decode cX2_areSoWith 25 = .ok (.iaload, 1) := by decide +kernel
theorem dX2_areSoWith_26 : decode cX2_areSoWith 26 = .ok (.istore 5, 2) := by decide +kernel
theorem dX2_areSoWith_28 : decode cX2_areSoWith 28 = .ok (.iload 5, 2) := by decide +kernel
theorem dX2_areSoWith_30 : decode cX2_areSoWith 30 = .ok (.iload_n 2, 1) := by decide +kernel
theorem dX2_areSoWith_31 : decode cX2_areSoWith 31 = .ok (.if_icmp .ne 7, 3) := by decide +kernel
theorem dX2_areSoWith_34 : decode cX2_areSoWith 34 = .ok (.iload_n 3, 1) := by decide +kernel
theorem dX2_areSoWith_35 : decode cX2_areSoWith 35 = .ok (.goto 9, 3) := by decide +kernel
theorem dX2_areSoWith_38 : decode cX2_areSoWith 38 = .ok (.aload_n 1, 1) := by decide +kernel
theorem dX2_areSoWith_39 : decode cX2_areSoWith 39 = .ok (.iload 5, 2) := by decide +kernel
theorem dX2_areSoWith_41 : decode cX2_areSoWith 41 = .ok (.invokevirtual 22, 3) := by decide +kernel
theorem dX2_areSoWith_44 : decode cX2_areSoWith 44 = .ok (.istore 6, 2) := by decide +kernel
theorem dX2_areSoWith_46 : decode cX2_areSoWith 46 = .ok (.aload_n 1, 1) := by decide +kernel
theorem dX2_areSoWith_47 : decode cX2_areSoWith 47 = .ok (.getfield 28, 3) := by decide +kernel
theorem dX2_areSoWith_50 : decode cX2_areSoWith 50 = .ok (.iload 6, 2) := by decide +kernel
theorem dX2_areSoWith_52 : decode cX2_areSoWith 52 = .ok (.aload_n 1, 1) := by decide +kernel
theorem dX2_areSoWith_53 : decode cX2_areSoWith 53 = .ok (.getfield 31, 3) := by decide +kernel
theorem dX2_areSoWith_56 : decode cX2_areSoWith 56 = .ok (.aload_n 1, 1) := by decide +kernel
theorem dX2_areSoWith_57 : decode cX2_areSoWith 57 = .ok (.iload 5, 2) := by decide +kernel
theorem dX2_areSoWith_59 : decode cX2_areSoWith 59 = .ok (.invokevirtual 34, 3) := by decide +kernel
theorem dX2_areSoWith_62 : decode cX2_areSoWith 62 = .ok (.invokestatic 37, 3) := by decide +kernel
theorem dX2_areSoWith_65 : decode cX2_areSoWith 65 = .ok (.aload_n 0, 1) := by decide +kernel
theorem dX2_areSoWith_66 : decode cX2_areSoWith 66 = .ok (.getfield 15, 3) := by decide +kernel
theorem dX2_areSoWith_69 : decode cX2_areSoWith 69 = .ok (.iload 4, 2) := by decide +kernel
theorem dX2_areSoWith_71 : decode cX2_areSoWith 71 = .ok (.iaload, 1) := by decide +kernel
theorem dX2_areSoWith_72 : decode cX2_areSoWith 72 = .ok (.if_icmp .eq 5, 3) := by decide +kernel
theorem dX2_areSoWith_75 : decode cX2_areSoWith 75 = .ok (.iconst 0, 1) := by decide +kernel
theorem dX2_areSoWith_76 : decode cX2_areSoWith 76 = .ok (.ireturn, 1) := by decide +kernel
theorem dX2_areSoWith_77 : decode cX2_areSoWith 77 = .ok (.iinc 4 1, 3) := by decide +kernel
theorem dX2_areSoWith_80 : decode cX2_areSoWith 80 = .ok (.goto (-77), 3) := by decide +kernel
theorem dX2_areSoWith_83 : decode cX2_areSoWith 83 = .ok (.iconst 1, 1) := by decide +kernel
theorem dX2_areSoWith_84 : decode cX2_areSoWith 84 = .ok (.ireturn, 1) := by decide +kernel
set_option maxRecDepth 20000 in
theorem ggX2_areSoByKey_X4_turnAt : GoodIn wsX2_areSoByKey wsX4_turnAt := goodIn_r _ [8, 9, 10, 11, 12, 13, 7, 14, 15, 16, 17, 18, 29, 30, 31, 32, 33, 34, 35] (by decide +kernel) (by decide +kernel)
set_option maxRecDepth 20000 in
theorem gX2_areSoByKey_X4_turnAt : GoodIn wsX2_areSoByKey (wsV RX2 22 RX4 yX4_turnAt wsX4_turnAt) := goodIn_app (goodIn_of _ (by decide +kernel)) ggX2_areSoByKey_X4_turnAt
set_option maxRecDepth 20000 in
theorem ggX2_areSoByKey_X4_yearAt : GoodIn wsX2_areSoByKey wsX4_yearAt := goodIn_r _ [22, 23, 11, 12, 13, 7, 14, 15, 29, 30, 31, 32, 33, 34, 35] (by decide +kernel) (by decide +kernel)
set_option maxRecDepth 20000 in
theorem gX2_areSoByKey_X4_yearAt : GoodIn wsX2_areSoByKey (wsV RX2 34 RX4 yX4_yearAt wsX4_yearAt) := goodIn_app (goodIn_of _ (by decide +kernel)) ggX2_areSoByKey_X4_yearAt
set_option maxRecDepth 20000 in
theorem ggX2_areSoByKey_X5_wishOf : GoodIn wsX2_areSoByKey wsX5_wishOf := goodIn_r _ [25] (by decide +kernel) (by decide +kernel)
set_option maxRecDepth 20000 in
theorem gX2_areSoByKey_X5_wishOf_n37 : GoodIn wsX2_areSoByKey (wsX5_wishOf) := ggX2_areSoByKey_X5_wishOf
theorem dX2_areSoByKey_0 : decode cX2_areSoByKey 0 = .ok (.iconst 0, 1) := by decide +kernel
theorem dX2_areSoByKey_1 : decode cX2_areSoByKey 1 = .ok (.istore 4, 2) := by decide +kernel
theorem dX2_areSoByKey_3 : decode cX2_areSoByKey 3 = .ok (.iload 4, 2) := by decide +kernel
theorem dX2_areSoByKey_5 : decode cX2_areSoByKey 5 = .ok (.aload_n 0, 1) := by decide +kernel
theorem dX2_areSoByKey_6 : decode cX2_areSoByKey 6 = .ok (.getfield 18, 3) := by decide +kernel
theorem dX2_areSoByKey_9 : decode cX2_areSoByKey 9 = .ok (.if_icmp .ge 54, 3) := by decide +kernel
theorem dX2_areSoByKey_12 : decode cX2_areSoByKey 12 = .ok (.iload 4, 2) := by decide +kernel
theorem dX2_areSoByKey_14 : decode cX2_areSoByKey 14 = .ok (.bipush 8, 2) := by decide +kernel
theorem dX2_areSoByKey_16 : decode cX2_areSoByKey 16 = .ok (.if_icmp .ge 47, 3) := by decide +kernel
theorem dX2_areSoByKey_19 : decode cX2_areSoByKey 19 = .ok (.aload_n 0, 1) := by decide +kernel
theorem dX2_areSoByKey_20 : decode cX2_areSoByKey 20 = .ok (.getfield 9, 3) := by decide +kernel
theorem dX2_areSoByKey_23 : decode cX2_areSoByKey 23 = .ok (.iload 4, 2) := by decide +kernel
theorem dX2_areSoByKey_25 : decode cX2_areSoByKey 25 = .ok (.iaload, 1) := by decide +kernel
theorem dX2_areSoByKey_26 : decode cX2_areSoByKey 26 = .ok (.istore 5, 2) := by decide +kernel
theorem dX2_areSoByKey_28 : decode cX2_areSoByKey 28 = .ok (.iload_n 2, 1) := by decide +kernel
theorem dX2_areSoByKey_29 : decode cX2_areSoByKey 29 = .ok (.aload_n 1, 1) := by decide +kernel
theorem dX2_areSoByKey_30 : decode cX2_areSoByKey 30 = .ok (.iload 5, 2) := by decide +kernel
theorem dX2_areSoByKey_32 : decode cX2_areSoByKey 32 = .ok (.invokevirtual 22, 3) := by decide +kernel
theorem dX2_areSoByKey_35 : decode cX2_areSoByKey 35 = .ok (.iload_n 3, 1) := by decide +kernel
theorem dX2_areSoByKey_36 : decode cX2_areSoByKey 36 = .ok (.aload_n 1, 1) := by decide +kernel
theorem dX2_areSoByKey_37 : decode cX2_areSoByKey 37 = .ok (.iload 5, 2) := by decide +kernel
theorem dX2_areSoByKey_39 : decode cX2_areSoByKey 39 = .ok (.invokevirtual 34, 3) := by decide +kernel
theorem dX2_areSoByKey_42 : decode cX2_areSoByKey 42 = .ok (.invokestatic 37, 3) := by decide +kernel
theorem dX2_areSoByKey_45 : decode cX2_areSoByKey 45 = .ok (.aload_n 0, 1) := by decide +kernel
theorem dX2_areSoByKey_46 : decode cX2_areSoByKey 46 = .ok (.getfield 15, 3) := by decide +kernel
theorem dX2_areSoByKey_49 : decode cX2_areSoByKey 49 = .ok (.iload 4, 2) := by decide +kernel
theorem dX2_areSoByKey_51 : decode cX2_areSoByKey 51 = .ok (.iaload, 1) := by decide +kernel
theorem dX2_areSoByKey_52 : decode cX2_areSoByKey 52 = .ok (.if_icmp .eq 5, 3) := by decide +kernel
theorem dX2_areSoByKey_55 : decode cX2_areSoByKey 55 = .ok (.iconst 0, 1) := by decide +kernel
theorem dX2_areSoByKey_56 : decode cX2_areSoByKey 56 = .ok (.ireturn, 1) := by decide +kernel
theorem dX2_areSoByKey_57 : decode cX2_areSoByKey 57 = .ok (.iinc 4 1, 3) := by decide +kernel
theorem dX2_areSoByKey_60 : decode cX2_areSoByKey 60 = .ok (.goto (-57), 3) := by decide +kernel
theorem dX2_areSoByKey_63 : decode cX2_areSoByKey 63 = .ok (.iconst 1, 1) := by decide +kernel
theorem dX2_areSoByKey_64 : decode cX2_areSoByKey 64 = .ok (.ireturn, 1) := by decide +kernel
theorem dX3_init_0 : decode cX3_init 0 = .ok (.aload_n 0, 1) := by decide +kernel
theorem dX3_init_1 : decode cX3_init 1 = .ok (.invokespecial 3, 3) := by decide +kernel
theorem dX3_init_4 : decode cX3_init 4 = .ok (.aload_n 0, 1) := by decide +kernel
theorem dX3_init_5 : decode cX3_init 5 = .ok (.bipush 60, 2) := by decide +kernel
theorem dX3_init_7 : decode cX3_init 7 = .ok (.newarray .int, 2) := by decide +kernel
theorem dX3_init_9 : decode cX3_init 9 = .ok (.putfield 9, 3) := by decide +kernel
theorem dX3_init_12 : decode cX3_init 12 = .ok (.aload_n 0, 1) := by decide +kernel
theorem dX3_init_13 : decode cX3_init 13 = .ok (.iconst (-1), 1) := by decide +kernel
theorem dX3_init_14 : decode cX3_init 14 = .ok (.putfield 15, 3) := by decide +kernel
theorem dX3_init_17 : decode cX3_init 17 = .ok (.return_, 1) := by decide +kernel
theorem dX3_begin_0 : decode cX3_begin 0 = .ok (.aload_n 0, 1) := by decide +kernel
theorem dX3_begin_1 : decode cX3_begin 1 = .ok (.iload_n 1, 1) := by decide +kernel
theorem dX3_begin_2 : decode cX3_begin 2 = .ok (.putfield 15, 3) := by decide +kernel
theorem dX3_begin_5 : decode cX3_begin 5 = .ok (.aload_n 0, 1) := by decide +kernel
theorem dX3_begin_6 : decode cX3_begin 6 = .ok (.iconst 0, 1) := by decide +kernel
theorem dX3_begin_7 : decode cX3_begin 7 = .ok (.iload_n 2, 1) := by decide +kernel
theorem dX3_begin_8 : decode cX3_begin 8 = .ok (.bipush 60, 2) := by decide +kernel
theorem dX3_begin_10 : decode cX3_begin 10 = .ok (.invokestatic 19, 3) := by decide +kernel
theorem dX3_begin_13 : decode cX3_begin 13 = .ok (.invokestatic 25, 3) := by decide +kernel
theorem dX3_begin_16 : decode cX3_begin 16 = .ok (.putfield 28, 3) := by decide +kernel
theorem dX3_begin_19 : decode cX3_begin 19 = .ok (.iconst 0, 1) := by decide +kernel
theorem dX3_begin_20 : decode cX3_begin 20 = .ok (.istore_n 3, 1) := by decide +kernel
theorem dX3_begin_21 : decode cX3_begin 21 = .ok (.iload_n 3, 1) := by decide +kernel
theorem dX3_begin_22 : decode cX3_begin 22 = .ok (.bipush 60, 2) := by decide +kernel
theorem dX3_begin_24 : decode cX3_begin 24 = .ok (.if_icmp .ge 16, 3) := by decide +kernel
theorem dX3_begin_27 : decode cX3_begin 27 = .ok (.aload_n 0, 1) := by decide +kernel
theorem dX3_begin_28 : decode cX3_begin 28 = .ok (.getfield 9, 3) := by decide +kernel
theorem dX3_begin_31 : decode cX3_begin 31 = .ok (.iload_n 3, 1) := by decide +kernel
theorem dX3_begin_32 : decode cX3_begin 32 = .ok (.iconst 0, 1) := by decide +kernel
theorem dX3_begin_33 : decode cX3_begin 33 = .ok (.iastore, 1) := by decide +kernel
theorem dX3_begin_34 : decode cX3_begin 34 = .ok (.iinc 3 1, 3) := by decide +kernel
theorem dX3_begin_37 : decode cX3_begin 37 = .ok (.goto (-16), 3) := by decide +kernel
theorem dX3_begin_40 : decode cX3_begin 40 = .ok (.return_, 1) := by decide +kernel
theorem dX3_end_0 : decode cX3_end 0 = .ok (.aload_n 0, 1) := by decide +kernel
theorem dX3_end_1 : decode cX3_end 1 = .ok (.iconst (-1), 1) := by decide +kernel
theorem dX3_end_2 : decode cX3_end 2 = .ok (.putfield 15, 3) := by decide +kernel
theorem dX3_end_5 : decode cX3_end 5 = .ok (.aload_n 0, 1) := by decide +kernel
theorem dX3_end_6 : decode cX3_end 6 = .ok (.iconst 0, 1) := by decide +kernel
theorem dX3_end_7 : decode cX3_end 7 = .ok (.putfield 28, 3) := by decide +kernel
theorem dX3_end_10 : decode cX3_end 10 = .ok (.return_, 1) := by decide +kernel
theorem dX3_hasRow_0 : decode cX3_hasRow 0 = .ok (.aload_n 0, 1) := by decide +kernel
theorem dX3_hasRow_1 : decode cX3_hasRow 1 = .ok (.getfield 15, 3) := by decide +kernel
theorem dX3_hasRow_4 : decode cX3_hasRow 4 = .ok (.iconst (-1), 1) := by decide +kernel
theorem dX3_hasRow_5 : decode cX3_hasRow 5 = .ok (.if_icmp .eq 7, 3) := by decide +kernel
theorem dX3_hasRow_8 : decode cX3_hasRow 8 = .ok (.iconst 1, 1) := by decide +kernel
theorem dX3_hasRow_9 : decode cX3_hasRow 9 = .ok (.goto 4, 3) := by decide +kernel
theorem dX3_hasRow_12 : decode cX3_hasRow 12 = .ok (.iconst 0, 1) := by decide +kernel
theorem dX3_hasRow_13 : decode cX3_hasRow 13 = .ok (.ireturn, 1) := by decide +kernel
theorem dX3_hasCells_0 : decode cX3_hasCells 0 = .ok (.iload_n 1, 1) := by decide +kernel
theorem dX3_hasCells_1 : decode cX3_hasCells 1 = .ok (.ifCond .lt 29, 3) := by decide +kernel
theorem dX3_hasCells_4 : decode cX3_hasCells 4 = .ok (.iload_n 1, 1) := by decide +kernel
theorem dX3_hasCells_5 : decode cX3_hasCells 5 = .ok (.aload_n 0, 1) := by decide +kernel
theorem dX3_hasCells_6 : decode cX3_hasCells 6 = .ok (.getfield 28, 3) := by decide +kernel
theorem dX3_hasCells_9 : decode cX3_hasCells 9 = .ok (.if_icmp .gt 21, 3) := by decide +kernel
theorem dX3_hasCells_12 : decode cX3_hasCells 12 = .ok (.iload_n 2, 1) := by decide +kernel
theorem dX3_hasCells_13 : decode cX3_hasCells 13 = .ok (.ifCond .lt 17, 3) := by decide +kernel
theorem dX3_hasCells_16 : decode cX3_hasCells 16 = .ok (.iload_n 2, 1) := by decide +kernel
theorem dX3_hasCells_17 : decode cX3_hasCells 17 = .ok (.aload_n 0, 1) := by decide +kernel
theorem dX3_hasCells_18 : decode cX3_hasCells 18 = .ok (.getfield 28, 3) := by decide +kernel
theorem dX3_hasCells_21 : decode cX3_hasCells 21 = .ok (.iload_n 1, 1) := by decide +kernel
theorem dX3_hasCells_22 : decode cX3_hasCells 22 = .ok (.isub, 1) := by decide +kernel
theorem dX3_hasCells_23 : decode cX3_hasCells 23 = .ok (.if_icmp .gt 7, 3) := by decide +kernel
theorem dX3_hasCells_26 : decode cX3_hasCells 26 = .ok (.iconst 1, 1) := by decide +kernel
theorem dX3_hasCells_27 : decode cX3_hasCells 27 = .ok (.goto 4, 3) := by decide +kernel
theorem dX3_hasCells_30 : decode cX3_hasCells 30 = .ok (.iconst 0, 1) := by decide +kernel
theorem dX3_hasCells_31 : decode cX3_hasCells 31 = .ok (.ireturn, 1) := by decide +kernel
set_option maxRecDepth 20000 in
theorem ggX3_faultAs_X3_hasRow : GoodIn wsX3_faultAs wsX3_hasRow := goodIn_r _ [6, 1, 7, 8, 9] (by decide +kernel) (by decide +kernel)
set_option maxRecDepth 20000 in
theorem gX3_faultAs_X3_hasRow : GoodIn wsX3_faultAs (wsV RX3 31 RX3 yX3_hasRow wsX3_hasRow) := goodIn_app (goodIn_of _ (by decide +kernel)) ggX3_faultAs_X3_hasRow
theorem dX3_faultAs_0 : decode cX3_faultAs 0 = .ok (.aload_n 0, 1) := by decide +kernel
theorem dX3_faultAs_1 : decode cX3_faultAs 1 = .ok (.invokevirtual 31, 3) := by decide +kernel
theorem dX3_faultAs_4 : decode cX3_faultAs 4 = .ok (.ifCond .ne 5, 3) := by decide +kernel
theorem dX3_faultAs_7 : decode cX3_faultAs 7 = .ok (.iconst 1, 1) := by decide +kernel
theorem dX3_faultAs_8 : decode cX3_faultAs 8 = .ok (.ireturn, 1) := by decide +kernel
theorem dX3_faultAs_9 : decode cX3_faultAs 9 = .ok (.aload_n 0, 1) := by decide +kernel
theorem dX3_faultAs_10 : decode cX3_faultAs 10 = .ok (.getfield 15, 3) := by decide +kernel
theorem dX3_faultAs_13 : decode cX3_faultAs 13 = .ok (.iload_n 1, 1) := by decide +kernel
theorem dX3_faultAs_14 : decode cX3_faultAs 14 = .ok (.if_icmp .ne 7, 3) := by decide +kernel
theorem dX3_faultAs_17 : decode cX3_faultAs 17 = .ok (.iconst 0, 1) := by decide +kernel
theorem dX3_faultAs_18 : decode cX3_faultAs 18 = .ok (.goto 4, 3) := by decide +kernel
theorem dX3_faultAs_21 : decode cX3_faultAs 21 = .ok (.iconst 2, 1) := by decide +kernel
theorem dX3_faultAs_22 : decode cX3_faultAs 22 = .ok (.ireturn, 1) := by decide +kernel
set_option maxRecDepth 20000 in
theorem ggX3_faultOfCells_X3_faultAs : GoodIn wsX3_faultOfCells wsX3_faultAs := goodIn_r _ [5, 6, 7, 8, 9, 4, 10, 16, 17, 18] (by decide +kernel) (by decide +kernel)
set_option maxRecDepth 20000 in
theorem gX3_faultOfCells_X3_faultAs : GoodIn wsX3_faultOfCells (wsV RX3 35 RX3 yX3_faultAs wsX3_faultAs) := goodIn_app (goodIn_of _ (by decide +kernel)) ggX3_faultOfCells_X3_faultAs
set_option maxRecDepth 20000 in
theorem ggX3_faultOfCells_X3_hasCells : GoodIn wsX3_faultOfCells wsX3_hasCells := goodIn_r _ [14, 15, 16, 17, 18] (by decide +kernel) (by decide +kernel)
set_option maxRecDepth 20000 in
theorem gX3_faultOfCells_X3_hasCells : GoodIn wsX3_faultOfCells (wsV RX3 39 RX3 yX3_hasCells wsX3_hasCells) := goodIn_app (goodIn_of _ (by decide +kernel)) ggX3_faultOfCells_X3_hasCells
theorem dX3_faultOfCells_0 : decode cX3_faultOfCells 0 = .ok (.aload_n 0, 1) := by decide +kernel
theorem dX3_faultOfCells_1 : decode cX3_faultOfCells 1 = .ok (.iload_n 1, 1) := by decide +kernel
theorem dX3_faultOfCells_2 : decode cX3_faultOfCells 2 = .ok (.invokevirtual 35, 3) := by decide +kernel
theorem dX3_faultOfCells_5 : decode cX3_faultOfCells 5 = .ok (.istore 4, 2) := by decide +kernel
theorem dX3_faultOfCells_7 : decode cX3_faultOfCells 7 = .ok (.iload 4, 2) := by decide +kernel
theorem dX3_faultOfCells_9 : decode cX3_faultOfCells 9 = .ok (.ifCond .ne 15, 3) := by decide +kernel
theorem dX3_faultOfCells_12 : decode cX3_faultOfCells 12 = .ok (.aload_n 0, 1) := by decide +kernel
theorem dX3_faultOfCells_13 : decode cX3_faultOfCells 13 = .ok (.iload_n 2, 1) := by decide +kernel
theorem dX3_faultOfCells_14 : decode cX3_faultOfCells 14 = .ok (.iload_n 3, 1) := by decide +kernel
theorem dX3_faultOfCells_15 : decode cX3_faultOfCells 15 = .ok (.invokevirtual 39, 3) := by decide +kernel
theorem dX3_faultOfCells_18 : decode cX3_faultOfCells 18 = .ok (.ifCond .ne 6, 3) := by decide +kernel
theorem dX3_faultOfCells_21 : decode cX3_faultOfCells 21 = .ok (.iconst 3, 1) := by decide +kernel
theorem dX3_faultOfCells_22 : decode cX3_faultOfCells 22 = .ok (.istore 4, 2) := by decide +kernel
theorem dX3_faultOfCells_24 : decode cX3_faultOfCells 24 = .ok (.iload 4, 2) := by decide +kernel
theorem dX3_faultOfCells_26 : decode cX3_faultOfCells 26 = .ok (.ireturn, 1) := by decide +kernel
set_option maxRecDepth 20000 in
theorem ggX3_at_X3_hasCells : GoodIn wsX3_at wsX3_hasCells := goodIn_r _ [6, 7, 8, 9, 10] (by decide +kernel) (by decide +kernel)
set_option maxRecDepth 20000 in
theorem gX3_at_X3_hasCells : GoodIn wsX3_at (wsV RX3 39 RX3 yX3_hasCells wsX3_hasCells) := goodIn_app (goodIn_of _ (by decide +kernel)) ggX3_at_X3_hasCells
theorem dX3_at_0 : decode cX3_at 0 = .ok (.aload_n 0, 1) := by decide +kernel
theorem dX3_at_1 : decode cX3_at 1 = .ok (.iload_n 1, 1) := by decide +kernel
theorem dX3_at_2 : decode cX3_at 2 = .ok (.iconst 1, 1) := by decide +kernel
theorem dX3_at_3 : decode cX3_at 3 = .ok (.invokevirtual 39, 3) := by decide +kernel
theorem dX3_at_6 : decode cX3_at 6 = .ok (.ifCond .eq 12, 3) := by decide +kernel
theorem dX3_at_9 : decode cX3_at 9 = .ok (.aload_n 0, 1) := by decide +kernel
theorem dX3_at_10 : decode cX3_at 10 = .ok (.getfield 9, 3) := by decide +kernel
theorem dX3_at_13 : decode cX3_at 13 = .ok (.iload_n 1, 1) := by decide +kernel
theorem dX3_at_14 : decode cX3_at 14 = .ok (.iaload, 1) := by decide +kernel
theorem dX3_at_15 : decode cX3_at 15 = .ok (.goto 4, 3) := by decide +kernel
theorem dX3_at_18 : decode cX3_at 18 = .ok (.iconst 0, 1) := by decide +kernel
theorem dX3_at_19 : decode cX3_at 19 = .ok (.ireturn, 1) := by decide +kernel
set_option maxRecDepth 20000 in
theorem ggX3_set_X3_hasCells : GoodIn wsX3_set wsX3_hasCells := goodIn_r _ [7, 8, 9, 10, 11] (by decide +kernel) (by decide +kernel)
set_option maxRecDepth 20000 in
theorem gX3_set_X3_hasCells : GoodIn wsX3_set (wsV RX3 39 RX3 yX3_hasCells wsX3_hasCells) := goodIn_app (goodIn_of _ (by decide +kernel)) ggX3_set_X3_hasCells
theorem dX3_set_0 : decode cX3_set 0 = .ok (.aload_n 0, 1) := by decide +kernel
theorem dX3_set_1 : decode cX3_set 1 = .ok (.iload_n 1, 1) := by decide +kernel
theorem dX3_set_2 : decode cX3_set 2 = .ok (.iconst 1, 1) := by decide +kernel
theorem dX3_set_3 : decode cX3_set 3 = .ok (.invokevirtual 39, 3) := by decide +kernel
theorem dX3_set_6 : decode cX3_set 6 = .ok (.ifCond .ne 4, 3) := by decide +kernel
theorem dX3_set_9 : decode cX3_set 9 = .ok (.return_, 1) := by decide +kernel
theorem dX3_set_10 : decode cX3_set 10 = .ok (.aload_n 0, 1) := by decide +kernel
theorem dX3_set_11 : decode cX3_set 11 = .ok (.getfield 15, 3) := by decide +kernel
theorem dX3_set_14 : decode cX3_set 14 = .ok (.ifCond .ne 14, 3) := by decide +kernel
theorem dX3_set_17 : decode cX3_set 17 = .ok (.aload_n 0, 1) := by decide +kernel
theorem dX3_set_18 : decode cX3_set 18 = .ok (.getfield 9, 3) := by decide +kernel
theorem dX3_set_21 : decode cX3_set 21 = .ok (.iload_n 1, 1) := by decide +kernel
theorem dX3_set_22 : decode cX3_set 22 = .ok (.iload_n 2, 1) := by decide +kernel
theorem dX3_set_23 : decode cX3_set 23 = .ok (.i2b, 1) := by decide +kernel
theorem dX3_set_24 : decode cX3_set 24 = .ok (.iastore, 1) := by decide +kernel
theorem dX3_set_25 : decode cX3_set 25 = .ok (.goto 29, 3) := by decide +kernel
theorem dX3_set_28 : decode cX3_set 28 = .ok (.aload_n 0, 1) := by decide +kernel
theorem dX3_set_29 : decode cX3_set 29 = .ok (.getfield 15, 3) := by decide +kernel
theorem dX3_set_32 : decode cX3_set 32 = .ok (.iconst 1, 1) := by decide +kernel
theorem dX3_set_33 : decode cX3_set 33 = .ok (.if_icmp .ne 14, 3) := by decide +kernel
theorem dX3_set_36 : decode cX3_set 36 = .ok (.aload_n 0, 1) := by decide +kernel
theorem dX3_set_37 : decode cX3_set 37 = .ok (.getfield 9, 3) := by decide +kernel
theorem dX3_set_40 : decode cX3_set 40 = .ok (.iload_n 1, 1) := by decide +kernel
theorem dX3_set_41 : decode cX3_set 41 = .ok (.iload_n 2, 1) := by decide +kernel
theorem dX3_set_42 : decode cX3_set 42 = .ok (.i2s, 1) := by decide +kernel
theorem dX3_set_43 : decode cX3_set 43 = .ok (.iastore, 1) := by decide +kernel
theorem dX3_set_44 : decode cX3_set 44 = .ok (.goto 10, 3) := by decide +kernel
theorem dX3_set_47 : decode cX3_set 47 = .ok (.aload_n 0, 1) := by decide +kernel
theorem dX3_set_48 : decode cX3_set 48 = .ok (.getfield 9, 3) := by decide +kernel
theorem dX3_set_51 : decode cX3_set 51 = .ok (.iload_n 1, 1) := by decide +kernel
theorem dX3_set_52 : decode cX3_set 52 = .ok (.iload_n 2, 1) := by decide +kernel
theorem dX3_set_53 : decode cX3_set 53 = .ok (.iastore, 1) := by decide +kernel
theorem dX3_set_54 : decode cX3_set 54 = .ok (.return_, 1) := by decide +kernel
theorem dX4_init_0 : decode cX4_init 0 = .ok (.aload_n 0, 1) := by decide +kernel
theorem dX4_init_1 : decode cX4_init 1 = .ok (.invokespecial 3, 3) := by decide +kernel
theorem dX4_init_4 : decode cX4_init 4 = .ok (.aload_n 0, 1) := by decide +kernel
theorem dX4_init_5 : decode cX4_init 5 = .ok (.bipush 9, 2) := by decide +kernel
theorem dX4_init_7 : decode cX4_init 7 = .ok (.newarray .int, 2) := by decide +kernel
theorem dX4_init_9 : decode cX4_init 9 = .ok (.putfield 9, 3) := by decide +kernel
theorem dX4_init_12 : decode cX4_init 12 = .ok (.aload_n 0, 1) := by decide +kernel
theorem dX4_init_13 : decode cX4_init 13 = .ok (.bipush 9, 2) := by decide +kernel
theorem dX4_init_15 : decode cX4_init 15 = .ok (.newarray .int, 2) := by decide +kernel
theorem dX4_init_17 : decode cX4_init 17 = .ok (.putfield 15, 3) := by decide +kernel
theorem dX4_init_20 : decode cX4_init 20 = .ok (.aload_n 0, 1) := by decide +kernel
theorem dX4_init_21 : decode cX4_init 21 = .ok (.bipush 9, 2) := by decide +kernel
theorem dX4_init_23 : decode cX4_init 23 = .ok (.newarray .int, 2) := by decide +kernel
theorem dX4_init_25 : decode cX4_init 25 = .ok (.putfield 18, 3) := by decide +kernel
theorem dX4_init_28 : decode cX4_init 28 = .ok (.return_, 1) := by decide +kernel
set_option maxRecDepth 20000 in
theorem ggX4_fill_X3_at : GoodIn wsX4_fill wsX3_at := goodIn_r _ [9, 10, 11, 12, 13, 8, 14, 15, 31, 32, 33] (by decide +kernel) (by decide +kernel)
set_option maxRecDepth 20000 in
theorem gX4_fill_X3_at : GoodIn wsX4_fill (wsV RX4 21 RX3 yX3_at wsX3_at) := goodIn_app (goodIn_of _ (by decide +kernel)) ggX4_fill_X3_at
set_option maxRecDepth 20000 in
theorem ggX4_fill_X4_addTop : GoodIn wsX4_fill wsX4_addTop := goodIn_r _ [20, 3, 21, 22, 23, 4, 24, 25, 26, 27, 28, 29, 30] (by decide +kernel) (by decide +kernel)
set_option maxRecDepth 20000 in
theorem gX4_fill_X4_addTop : GoodIn wsX4_fill (wsV RX4 40 RX4 yX4_addTop wsX4_addTop) := goodIn_app (goodIn_of _ (by decide +kernel)) ggX4_fill_X4_addTop
theorem dX4_fill_0 : decode cX4_fill 0 = .ok (.aload_n 0, 1) := by decide +kernel
theorem dX4_fill_1 : decode cX4_fill 1 = .ok (.aload_n 1, 1) := by decide +kernel
theorem dX4_fill_2 : decode cX4_fill 2 = .ok (.iload_n 2, 1) := by decide +kernel
theorem dX4_fill_3 : decode cX4_fill 3 = .ok (.iconst 1, 1) := by decide +kernel
theorem dX4_fill_4 : decode cX4_fill 4 = .ok (.iadd, 1) := by decide +kernel
theorem dX4_fill_5 : decode cX4_fill 5 = .ok (.invokevirtual 21, 3) := by decide +kernel
theorem dX4_fill_8 : decode cX4_fill 8 = .ok (.bipush 48, 2) := by decide +kernel
theorem dX4_fill_10 : decode cX4_fill 10 = .ok (.isub, 1) := by decide +kernel
theorem dX4_fill_11 : decode cX4_fill 11 = .ok (.putfield 27, 3) := by decide +kernel
theorem dX4_fill_14 : decode cX4_fill 14 = .ok (.aload_n 0, 1) := by decide +kernel
theorem dX4_fill_15 : decode cX4_fill 15 = .ok (.aload_n 1, 1) := by decide +kernel
theorem dX4_fill_16 : decode cX4_fill 16 = .ok (.iload_n 2, 1) := by decide +kernel
theorem dX4_fill_17 : decode cX4_fill 17 = .ok (.iconst 2, 1) := by decide +kernel
theorem dX4_fill_18 : decode cX4_fill 18 = .ok (.iadd, 1) := by decide +kernel
theorem dX4_fill_19 : decode cX4_fill 19 = .ok (.invokevirtual 21, 3) := by decide +kernel
theorem dX4_fill_22 : decode cX4_fill 22 = .ok (.bipush 48, 2) := by decide +kernel
theorem dX4_fill_24 : decode cX4_fill 24 = .ok (.isub, 1) := by decide +kernel
theorem dX4_fill_25 : decode cX4_fill 25 = .ok (.putfield 31, 3) := by decide +kernel
theorem dX4_fill_28 : decode cX4_fill 28 = .ok (.aload_n 0, 1) := by decide +kernel
theorem dX4_fill_29 : decode cX4_fill 29 = .ok (.iconst 0, 1) := by decide +kernel
theorem dX4_fill_30 : decode cX4_fill 30 = .ok (.putfield 34, 3) := by decide +kernel
theorem dX4_fill_33 : decode cX4_fill 33 = .ok (.aload_n 0, 1) := by decide +kernel
theorem dX4_fill_34 : decode cX4_fill 34 = .ok (.iconst 0, 1) := by decide +kernel
theorem dX4_fill_35 : decode cX4_fill 35 = .ok (.putfield 37, 3) := by decide +kernel
theorem dX4_fill_38 : decode cX4_fill 38 = .ok (.iload_n 2, 1) := by decide +kernel
theorem dX4_fill_39 : decode cX4_fill 39 = .ok (.iconst 3, 1) := by decide +kernel
theorem dX4_fill_40 : decode cX4_fill 40 = .ok (.iadd, 1) := by decide +kernel
theorem dX4_fill_41 : decode cX4_fill 41 = .ok (.istore 4, 2) := by decide +kernel
theorem dX4_fill_43 : decode cX4_fill 43 = .ok (.iload 4, 2) := by decide +kernel
theorem dX4_fill_45 : decode cX4_fill 45 = .ok (.iload_n 2, 1) := by decide +kernel
theorem dX4_fill_46 : decode cX4_fill 46 = .ok (.iload_n 3, 1) := by decide +kernel
theorem dX4_fill_47 : decode cX4_fill 47 = .ok (.iadd, 1) := by decide +kernel
theorem dX4_fill_48 : decode cX4_fill 48 = .ok (.if_icmp .ge 78, 3) := by decide +kernel
theorem dX4_fill_51 : decode cX4_fill 51 = .ok (.aload_n 1, 1) := by decide +kernel
theorem dX4_fill_52 : decode cX4_fill 52 = .ok (.iload 4, 2) := by decide +kernel
theorem dX4_fill_54 : decode cX4_fill 54 = .ok (.iconst 1, 1) := by decide +kernel
theorem dX4_fill_55 : decode cX4_fill 55 = .ok (.iadd, 1) := by decide +kernel
theorem dX4_fill_56 : decode cX4_fill 56 = .ok (.invokevirtual 21, 3) := by decide +kernel
theorem dX4_fill_59 : decode cX4_fill 59 = .ok (.istore 5, 2) := by decide +kernel
theorem dX4_fill_61 : decode cX4_fill 61 = .ok (.aload_n 0, 1) := by decide +kernel
theorem dX4_fill_62 : decode cX4_fill 62 = .ok (.dup, 1) := by decide +kernel
theorem dX4_fill_63 : decode cX4_fill 63 = .ok (.getfield 37, 3) := by decide +kernel
theorem dX4_fill_66 : decode cX4_fill 66 = .ok (.aload_n 1, 1) := by decide +kernel
theorem dX4_fill_67 : decode cX4_fill 67 = .ok (.iload 4, 2) := by decide +kernel
theorem dX4_fill_69 : decode cX4_fill 69 = .ok (.iconst 3, 1) := by decide +kernel
theorem dX4_fill_70 : decode cX4_fill 70 = .ok (.iadd, 1) := by decide +kernel
theorem dX4_fill_71 : decode cX4_fill 71 = .ok (.invokevirtual 21, 3) := by decide +kernel
theorem dX4_fill_74 : decode cX4_fill 74 = .ok (.bipush 48, 2) := by decide +kernel
theorem dX4_fill_76 : decode cX4_fill 76 = .ok (.isub, 1) := by decide +kernel
theorem dX4_fill_77 : decode cX4_fill 77 = .ok (.iadd, 1) := by decide +kernel
theorem dX4_fill_78 : decode cX4_fill 78 = .ok (.putfield 37, 3) := by decide +kernel
theorem dX4_fill_81 : decode cX4_fill 81 = .ok (.aload_n 0, 1) := by decide +kernel
theorem dX4_fill_82 : decode cX4_fill 82 = .ok (.iload 5, 2) := by decide +kernel
theorem dX4_fill_84 : decode cX4_fill 84 = .ok (.bipush 112, 2) := by decide +kernel
theorem dX4_fill_86 : decode cX4_fill 86 = .ok (.if_icmp .ne 7, 3) := by decide +kernel
theorem dX4_fill_89 : decode cX4_fill 89 = .ok (.iconst 0, 1) := by decide +kernel
theorem dX4_fill_90 : decode cX4_fill 90 = .ok (.goto 15, 3) := by decide +kernel
theorem dX4_fill_93 : decode cX4_fill 93 = .ok (.iload 5, 2) := by decide +kernel
theorem dX4_fill_95 : decode cX4_fill 95 = .ok (.bipush 99, 2) := by decide +kernel
theorem dX4_fill_97 : decode cX4_fill 97 = .ok (.if_icmp .ne 7, 3) := by decide +kernel
theorem dX4_fill_100 : decode cX4_fill 100 = .ok (.iconst 1, 1) := by decide +kernel
theorem dX4_fill_101 : decode cX4_fill 101 = .ok (.goto 4, 3) := by decide +kernel
theorem dX4_fill_104 : decode cX4_fill 104 = .ok (.iconst 2, 1) := by decide +kernel
theorem dX4_fill_105 : decode cX4_fill 105 = .ok (.aload_n 1, 1) := by decide +kernel
theorem dX4_fill_106 : decode cX4_fill 106 = .ok (.iload 4, 2) := by decide +kernel
theorem dX4_fill_108 : decode cX4_fill 108 = .ok (.iconst 2, 1) := by decide +kernel
theorem dX4_fill_109 : decode cX4_fill 109 = .ok (.iadd, 1) := by decide +kernel
theorem dX4_fill_110 : decode cX4_fill 110 = .ok (.invokevirtual 21, 3) := by decide +kernel
theorem dX4_fill_113 : decode cX4_fill 113 = .ok (.bipush 48, 2) := by decide +kernel
theorem dX4_fill_115 : decode cX4_fill 115 = .ok (.isub, 1) := by decide +kernel
theorem dX4_fill_116 : decode cX4_fill 116 = .ok (.invokevirtual 40, 3) := by decide +kernel
theorem dX4_fill_119 : decode cX4_fill 119 = .ok (.pop, 1) := by decide +kernel
theorem dX4_fill_120 : decode cX4_fill 120 = .ok (.iinc 4 4, 3) := by decide +kernel
theorem dX4_fill_123 : decode cX4_fill 123 = .ok (.goto (-80), 3) := by decide +kernel
theorem dX4_fill_126 : decode cX4_fill 126 = .ok (.return_, 1) := by decide +kernel
theorem dX4_become_0 : decode cX4_become 0 = .ok (.aload_n 1, 1) := by decide +kernel
theorem dX4_become_1 : decode cX4_become 1 = .ok (.getfield 9, 3) := by decide +kernel
theorem dX4_become_4 : decode cX4_become 4 = .ok (.iconst 0, 1) := by decide +kernel
theorem dX4_become_5 : decode cX4_become 5 = .ok (.aload_n 0, 1) := by decide +kernel
theorem dX4_become_6 : decode cX4_become 6 = .ok (.getfield 9, 3) := by decide +kernel
theorem dX4_become_9 : decode cX4_become 9 = .ok (.iconst 0, 1) := by decide +kernel
theorem dX4_become_10 : decode cX4_become 10 = .ok (.bipush 9, 2) := by decide +kernel
theorem dX4_become_12 : decode cX4_become 12 = .ok (.invokestatic 44, 3) := by decide +kernel
theorem dX4_become_15 : decode cX4_become 15 = .ok (.aload_n 1, 1) := by decide +kernel
theorem dX4_become_16 : decode cX4_become 16 = .ok (.getfield 15, 3) := by decide +kernel
theorem dX4_become_19 : decode cX4_become 19 = .ok (.iconst 0, 1) := by decide +kernel
theorem dX4_become_20 : decode cX4_become 20 = .ok (.aload_n 0, 1) := by decide +kernel
theorem dX4_become_21 : decode cX4_become 21 = .ok (.getfield 15, 3) := by decide +kernel
theorem dX4_become_24 : decode cX4_become 24 = .ok (.iconst 0, 1) := by decide +kernel
theorem dX4_become_25 : decode cX4_become 25 = .ok (.bipush 9, 2) := by decide +kernel
theorem dX4_become_27 : decode cX4_become 27 = .ok (.invokestatic 44, 3) := by decide +kernel
theorem dX4_become_30 : decode cX4_become 30 = .ok (.aload_n 1, 1) := by decide +kernel
theorem dX4_become_31 : decode cX4_become 31 = .ok (.getfield 18, 3) := by decide +kernel
theorem dX4_become_34 : decode cX4_become 34 = .ok (.iconst 0, 1) := by decide +kernel
theorem dX4_become_35 : decode cX4_become 35 = .ok (.aload_n 0, 1) := by decide +kernel
theorem dX4_become_36 : decode cX4_become 36 = .ok (.getfield 18, 3) := by decide +kernel
theorem dX4_become_39 : decode cX4_become 39 = .ok (.iconst 0, 1) := by decide +kernel
theorem dX4_become_40 : decode cX4_become 40 = .ok (.bipush 9, 2) := by decide +kernel
theorem dX4_become_42 : decode cX4_become 42 = .ok (.invokestatic 44, 3) := by decide +kernel
theorem dX4_become_45 : decode cX4_become 45 = .ok (.aload_n 0, 1) := by decide +kernel
theorem dX4_become_46 : decode cX4_become 46 = .ok (.aload_n 1, 1) := by decide +kernel
theorem dX4_become_47 : decode cX4_become 47 = .ok (.getfield 34, 3) := by decide +kernel
theorem dX4_become_50 : decode cX4_become 50 = .ok (.putfield 34, 3) := by decide +kernel
theorem dX4_become_53 : decode cX4_become 53 = .ok (.aload_n 0, 1) := by decide +kernel
theorem dX4_become_54 : decode cX4_become 54 = .ok (.aload_n 1, 1) := by decide +kernel
theorem dX4_become_55 : decode cX4_become 55 = .ok (.getfield 27, 3) := by decide +kernel
theorem dX4_become_58 : decode cX4_become 58 = .ok (.putfield 27, 3) := by decide +kernel
theorem dX4_become_61 : decode cX4_become 61 = .ok (.aload_n 0, 1) := by decide +kernel
theorem dX4_become_62 : decode cX4_become 62 = .ok (.aload_n 1, 1) := by decide +kernel
theorem dX4_become_63 : decode cX4_become 63 = .ok (.getfield 31, 3) := by decide +kernel
theorem dX4_become_66 : decode cX4_become 66 = .ok (.putfield 31, 3) := by decide +kernel
theorem dX4_become_69 : decode cX4_become 69 = .ok (.aload_n 0, 1) := by decide +kernel
theorem dX4_become_70 : decode cX4_become 70 = .ok (.aload_n 1, 1) := by decide +kernel
theorem dX4_become_71 : decode cX4_become 71 = .ok (.getfield 37, 3) := by decide +kernel
theorem dX4_become_74 : decode cX4_become 74 = .ok (.putfield 37, 3) := by decide +kernel
theorem dX4_become_77 : decode cX4_become 77 = .ok (.return_, 1) := by decide +kernel
theorem dX4_isPin_0 : decode cX4_isPin 0 = .ok (.iload_n 1, 1) := by decide +kernel
theorem dX4_isPin_1 : decode cX4_isPin 1 = .ok (.ifCond .lt 21, 3) := by decide +kernel
theorem dX4_isPin_4 : decode cX4_isPin 4 = .ok (.iload_n 1, 1) := by decide +kernel
theorem dX4_isPin_5 : decode cX4_isPin 5 = .ok (.aload_n 0, 1) := by decide +kernel
theorem dX4_isPin_6 : decode cX4_isPin 6 = .ok (.getfield 34, 3) := by decide +kernel
theorem dX4_isPin_9 : decode cX4_isPin 9 = .ok (.if_icmp .ge 13, 3) := by decide +kernel
theorem dX4_isPin_12 : decode cX4_isPin 12 = .ok (.iload_n 1, 1) := by decide +kernel
theorem dX4_isPin_13 : decode cX4_isPin 13 = .ok (.bipush 9, 2) := by decide +kernel
theorem dX4_isPin_15 : decode cX4_isPin 15 = .ok (.if_icmp .ge 7, 3) := by decide +kernel
theorem dX4_isPin_18 : decode cX4_isPin 18 = .ok (.iconst 1, 1) := by decide +kernel
theorem dX4_isPin_19 : decode cX4_isPin 19 = .ok (.goto 4, 3) := by decide +kernel
theorem dX4_isPin_22 : decode cX4_isPin 22 = .ok (.iconst 0, 1) := by decide +kernel
theorem dX4_isPin_23 : decode cX4_isPin 23 = .ok (.ireturn, 1) := by decide +kernel
set_option maxRecDepth 20000 in
theorem ggX4_kindAt_X4_isPin : GoodIn wsX4_kindAt wsX4_isPin := goodIn_r _ [6, 7, 8, 9, 10, 11, 12, 13, 14] (by decide +kernel) (by decide +kernel)
set_option maxRecDepth 20000 in
theorem gX4_kindAt_X4_isPin : GoodIn wsX4_kindAt (wsV RX4 50 RX4 yX4_isPin wsX4_isPin) := goodIn_app (goodIn_of _ (by decide +kernel)) ggX4_kindAt_X4_isPin
theorem dX4_kindAt_0 : decode cX4_kindAt 0 = .ok (.aload_n 0, 1) := by decide +kernel
theorem dX4_kindAt_1 : decode cX4_kindAt 1 = .ok (.iload_n 1, 1) := by decide +kernel
theorem dX4_kindAt_2 : decode cX4_kindAt 2 = .ok (.invokevirtual 50, 3) := by decide +kernel
theorem dX4_kindAt_5 : decode cX4_kindAt 5 = .ok (.ifCond .eq 12, 3) := by decide +kernel
theorem dX4_kindAt_8 : decode cX4_kindAt 8 = .ok (.aload_n 0, 1) := by decide +kernel
theorem dX4_kindAt_9 : decode cX4_kindAt 9 = .ok (.getfield 9, 3) := by decide +kernel
theorem dX4_kindAt_12 : decode cX4_kindAt 12 = .ok (.iload_n 1, 1) := by decide +kernel
theorem dX4_kindAt_13 : decode cX4_kindAt 13 = .ok (.iaload, 1) := by decide +kernel
theorem dX4_kindAt_14 : decode cX4_kindAt 14 = .ok (.goto 5, 3) := by decide +kernel
theorem dX4_kindAt_17 : decode cX4_kindAt 17 = .ok (.bipush (-9), 2) := by decide +kernel
theorem dX4_kindAt_19 : decode cX4_kindAt 19 = .ok (.ireturn, 1) := by decide +kernel
set_option maxRecDepth 20000 in
theorem ggX4_bendAt_X4_isPin : GoodIn wsX4_bendAt wsX4_isPin := goodIn_r _ [6, 7, 8, 9, 10, 11, 12, 13, 14] (by decide +kernel) (by decide +kernel)
set_option maxRecDepth 20000 in
theorem gX4_bendAt_X4_isPin : GoodIn wsX4_bendAt (wsV RX4 50 RX4 yX4_isPin wsX4_isPin) := goodIn_app (goodIn_of _ (by decide +kernel)) ggX4_bendAt_X4_isPin
theorem dX4_bendAt_0 : decode cX4_bendAt 0 = .ok (.aload_n 0, 1) := by decide +kernel
theorem dX4_bendAt_1 : decode cX4_bendAt 1 = .ok (.iload_n 1, 1) := by decide +kernel
theorem dX4_bendAt_2 : decode cX4_bendAt 2 = .ok (.invokevirtual 50, 3) := by decide +kernel
theorem dX4_bendAt_5 : decode cX4_bendAt 5 = .ok (.ifCond .eq 12, 3) := by decide +kernel
theorem dX4_bendAt_8 : decode cX4_bendAt 8 = .ok (.aload_n 0, 1) := by decide +kernel
theorem dX4_bendAt_9 : decode cX4_bendAt 9 = .ok (.getfield 15, 3) := by decide +kernel
theorem dX4_bendAt_12 : decode cX4_bendAt 12 = .ok (.iload_n 1, 1) := by decide +kernel
theorem dX4_bendAt_13 : decode cX4_bendAt 13 = .ok (.iaload, 1) := by decide +kernel
theorem dX4_bendAt_14 : decode cX4_bendAt 14 = .ok (.goto 5, 3) := by decide +kernel
theorem dX4_bendAt_17 : decode cX4_bendAt 17 = .ok (.bipush (-9), 2) := by decide +kernel
theorem dX4_bendAt_19 : decode cX4_bendAt 19 = .ok (.ireturn, 1) := by decide +kernel
set_option maxRecDepth 20000 in
theorem ggX4_yearAt_X4_isPin : GoodIn wsX4_yearAt wsX4_isPin := goodIn_r _ [6, 7, 8, 9, 10, 11, 12, 13, 14] (by decide +kernel) (by decide +kernel)
set_option maxRecDepth 20000 in
theorem gX4_yearAt_X4_isPin : GoodIn wsX4_yearAt (wsV RX4 50 RX4 yX4_isPin wsX4_isPin) := goodIn_app (goodIn_of _ (by decide +kernel)) ggX4_yearAt_X4_isPin
theorem dX4_yearAt_0 : decode cX4_yearAt 0 = .ok (.aload_n 0, 1) := by decide +kernel
theorem dX4_yearAt_1 : decode cX4_yearAt 1 = .ok (.iload_n 1, 1) := by decide +kernel
theorem dX4_yearAt_2 : decode cX4_yearAt 2 = .ok (.invokevirtual 50, 3) := by decide +kernel
theorem dX4_yearAt_5 : decode cX4_yearAt 5 = .ok (.ifCond .eq 12, 3) := by decide +kernel
theorem dX4_yearAt_8 : decode cX4_yearAt 8 = .ok (.aload_n 0, 1) := by decide +kernel
theorem dX4_yearAt_9 : decode cX4_yearAt 9 = .ok (.getfield 18, 3) := by decide +kernel
theorem dX4_yearAt_12 : decode cX4_yearAt 12 = .ok (.iload_n 1, 1) := by decide +kernel
theorem dX4_yearAt_13 : decode cX4_yearAt 13 = .ok (.iaload, 1) := by decide +kernel
theorem dX4_yearAt_14 : decode cX4_yearAt 14 = .ok (.goto 5, 3) := by decide +kernel
theorem dX4_yearAt_17 : decode cX4_yearAt 17 = .ok (.bipush (-9), 2) := by decide +kernel
theorem dX4_yearAt_19 : decode cX4_yearAt 19 = .ok (.ireturn, 1) := by decide +kernel
set_option maxRecDepth 20000 in
theorem ggX4_turnAt_X4_isPin : GoodIn wsX4_turnAt wsX4_isPin := goodIn_r _ [7, 8, 12, 13, 14, 15, 16, 17, 18] (by decide +kernel) (by decide +kernel)
set_option maxRecDepth 20000 in
theorem gX4_turnAt_X4_isPin : GoodIn wsX4_turnAt (wsV RX4 50 RX4 yX4_isPin wsX4_isPin) := goodIn_app (goodIn_of _ (by decide +kernel)) ggX4_turnAt_X4_isPin
set_option maxRecDepth 20000 in
theorem ggX4_turnAt_X5_turnOf : GoodIn wsX4_turnAt wsX5_turnOf := goodIn_r _ [11] (by decide +kernel) (by decide +kernel)
set_option maxRecDepth 20000 in
theorem gX4_turnAt_X5_turnOf_n54 : GoodIn wsX4_turnAt (wsX5_turnOf) := ggX4_turnAt_X5_turnOf
theorem dX4_turnAt_0 : decode cX4_turnAt 0 = .ok (.aload_n 0, 1) := by decide +kernel
theorem dX4_turnAt_1 : decode cX4_turnAt 1 = .ok (.iload_n 1, 1) := by decide +kernel
theorem dX4_turnAt_2 : decode cX4_turnAt 2 = .ok (.invokevirtual 50, 3) := by decide +kernel
theorem dX4_turnAt_5 : decode cX4_turnAt 5 = .ok (.ifCond .eq 21, 3) := by decide +kernel
theorem dX4_turnAt_8 : decode cX4_turnAt 8 = .ok (.aload_n 0, 1) := by decide +kernel
theorem dX4_turnAt_9 : decode cX4_turnAt 9 = .ok (.getfield 9, 3) := by decide +kernel
theorem dX4_turnAt_12 : decode cX4_turnAt 12 = .ok (.iload_n 1, 1) := by decide +kernel
theorem dX4_turnAt_13 : decode cX4_turnAt 13 = .ok (.iaload, 1) := by decide +kernel
theorem dX4_turnAt_14 : decode cX4_turnAt 14 = .ok (.aload_n 0, 1) := by decide +kernel
theorem dX4_turnAt_15 : decode cX4_turnAt 15 = .ok (.getfield 15, 3) := by decide +kernel
theorem dX4_turnAt_18 : decode cX4_turnAt 18 = .ok (.iload_n 1, 1) := by decide +kernel
theorem dX4_turnAt_19 : decode cX4_turnAt 19 = .ok (.iaload, 1) := by decide +kernel
theorem dX4_turnAt_20 : decode cX4_turnAt 20 = .ok (.invokestatic 54, 3) := by decide +kernel
theorem dX4_turnAt_23 : decode cX4_turnAt 23 = .ok (.goto 5, 3) := by decide +kernel
theorem dX4_turnAt_26 : decode cX4_turnAt 26 = .ok (.bipush (-9), 2) := by decide +kernel
theorem dX4_turnAt_28 : decode cX4_turnAt 28 = .ok (.ireturn, 1) := by decide +kernel
set_option maxRecDepth 20000 in
theorem ggX4_wishAt_X4_isPin : GoodIn wsX4_wishAt wsX4_isPin := goodIn_r _ [10, 11, 17, 18, 19, 20, 21, 22, 23] (by decide +kernel) (by decide +kernel)
set_option maxRecDepth 20000 in
theorem gX4_wishAt_X4_isPin : GoodIn wsX4_wishAt (wsV RX4 50 RX4 yX4_isPin wsX4_isPin) := goodIn_app (goodIn_of _ (by decide +kernel)) ggX4_wishAt_X4_isPin
set_option maxRecDepth 20000 in
theorem ggX4_wishAt_X5_turnOf : GoodIn wsX4_wishAt wsX5_turnOf := goodIn_r _ [14] (by decide +kernel) (by decide +kernel)
set_option maxRecDepth 20000 in
theorem gX4_wishAt_X5_turnOf_n54 : GoodIn wsX4_wishAt (wsX5_turnOf) := ggX4_wishAt_X5_turnOf
set_option maxRecDepth 20000 in
theorem ggX4_wishAt_X5_wishOf : GoodIn wsX4_wishAt wsX5_wishOf := goodIn_r _ [16] (by decide +kernel) (by decide +kernel)
set_option maxRecDepth 20000 in
theorem gX4_wishAt_X5_wishOf_n58 : GoodIn wsX4_wishAt (wsX5_wishOf) := ggX4_wishAt_X5_wishOf
theorem dX4_wishAt_0 : decode cX4_wishAt 0 = .ok (.aload_n 0, 1) := by decide +kernel
theorem dX4_wishAt_1 : decode cX4_wishAt 1 = .ok (.iload_n 1, 1) := by decide +kernel
theorem dX4_wishAt_2 : decode cX4_wishAt 2 = .ok (.invokevirtual 50, 3) := by decide +kernel
theorem dX4_wishAt_5 : decode cX4_wishAt 5 = .ok (.ifCond .eq 38, 3) := by decide +kernel
theorem dX4_wishAt_8 : decode cX4_wishAt 8 = .ok (.aload_n 0, 1) := by decide +kernel
theorem dX4_wishAt_9 : decode cX4_wishAt 9 = .ok (.getfield 27, 3) := by decide +kernel
theorem dX4_wishAt_12 : decode cX4_wishAt 12 = .ok (.aload_n 0, 1) := by decide +kernel
theorem dX4_wishAt_13 : decode cX4_wishAt 13 = .ok (.getfield 9, 3) := by decide +kernel
theorem dX4_wishAt_16 : decode cX4_wishAt 16 = .ok (.iload_n 1, 1) := by decide +kernel
theorem dX4_wishAt_17 : decode cX4_wishAt 17 = .ok (.iaload, 1) := by decide +kernel
theorem dX4_wishAt_18 : decode cX4_wishAt 18 = .ok (.aload_n 0, 1) := by decide +kernel
theorem dX4_wishAt_19 : decode cX4_wishAt 19 = .ok (.getfield 15, 3) := by decide +kernel
theorem dX4_wishAt_22 : decode cX4_wishAt 22 = .ok (.iload_n 1, 1) := by decide +kernel
theorem dX4_wishAt_23 : decode cX4_wishAt 23 = .ok (.iaload, 1) := by decide +kernel
theorem dX4_wishAt_24 : decode cX4_wishAt 24 = .ok (.invokestatic 54, 3) := by decide +kernel
theorem dX4_wishAt_27 : decode cX4_wishAt 27 = .ok (.aload_n 0, 1) := by decide +kernel
theorem dX4_wishAt_28 : decode cX4_wishAt 28 = .ok (.getfield 31, 3) := by decide +kernel
theorem dX4_wishAt_31 : decode cX4_wishAt 31 = .ok (.aload_n 0, 1) := by decide +kernel
theorem dX4_wishAt_32 : decode cX4_wishAt 32 = .ok (.getfield 18, 3) := by decide +kernel
theorem dX4_wishAt_35 : decode cX4_wishAt 35 = .ok (.iload_n 1, 1) := by decide +kernel
theorem dX4_wishAt_36 : decode cX4_wishAt 36 = .ok (.iaload, 1) := by decide +kernel
theorem dX4_wishAt_37 : decode cX4_wishAt 37 = .ok (.invokestatic 58, 3) := by decide +kernel
theorem dX4_wishAt_40 : decode cX4_wishAt 40 = .ok (.goto 5, 3) := by decide +kernel
theorem dX4_wishAt_43 : decode cX4_wishAt 43 = .ok (.bipush (-9), 2) := by decide +kernel
theorem dX4_wishAt_45 : decode cX4_wishAt 45 = .ok (.ireturn, 1) := by decide +kernel
set_option maxRecDepth 20000 in
theorem ggX4_wishNow_X5_turnOf : GoodIn wsX4_wishNow wsX5_turnOf := goodIn_r _ [6] (by decide +kernel) (by decide +kernel)
set_option maxRecDepth 20000 in
theorem gX4_wishNow_X5_turnOf_n54 : GoodIn wsX4_wishNow (wsX5_turnOf) := ggX4_wishNow_X5_turnOf
set_option maxRecDepth 20000 in
theorem ggX4_wishNow_X5_wishOf : GoodIn wsX4_wishNow wsX5_wishOf := goodIn_r _ [8] (by decide +kernel) (by decide +kernel)
set_option maxRecDepth 20000 in
theorem gX4_wishNow_X5_wishOf_n58 : GoodIn wsX4_wishNow (wsX5_wishOf) := ggX4_wishNow_X5_wishOf
theorem dX4_wishNow_0 : decode cX4_wishNow 0 = .ok (.aload_n 0, 1) := by decide +kernel
theorem dX4_wishNow_1 : decode cX4_wishNow 1 = .ok (.getfield 27, 3) := by decide +kernel
theorem dX4_wishNow_4 : decode cX4_wishNow 4 = .ok (.iload_n 1, 1) := by decide +kernel
theorem dX4_wishNow_5 : decode cX4_wishNow 5 = .ok (.iload_n 2, 1) := by decide +kernel
theorem dX4_wishNow_6 : decode cX4_wishNow 6 = .ok (.invokestatic 54, 3) := by decide +kernel
theorem dX4_wishNow_9 : decode cX4_wishNow 9 = .ok (.aload_n 0, 1) := by decide +kernel
theorem dX4_wishNow_10 : decode cX4_wishNow 10 = .ok (.getfield 31, 3) := by decide +kernel
theorem dX4_wishNow_13 : decode cX4_wishNow 13 = .ok (.aload_n 0, 1) := by decide +kernel
theorem dX4_wishNow_14 : decode cX4_wishNow 14 = .ok (.getfield 37, 3) := by decide +kernel
theorem dX4_wishNow_17 : decode cX4_wishNow 17 = .ok (.invokestatic 58, 3) := by decide +kernel
theorem dX4_wishNow_20 : decode cX4_wishNow 20 = .ok (.ireturn, 1) := by decide +kernel
set_option maxRecDepth 20000 in
theorem ggX4_setBend_X4_isPin : GoodIn wsX4_setBend wsX4_isPin := goodIn_r _ [6, 7, 8, 9, 10, 11, 12, 13, 14] (by decide +kernel) (by decide +kernel)
set_option maxRecDepth 20000 in
theorem gX4_setBend_X4_isPin : GoodIn wsX4_setBend (wsV RX4 50 RX4 yX4_isPin wsX4_isPin) := goodIn_app (goodIn_of _ (by decide +kernel)) ggX4_setBend_X4_isPin
theorem dX4_setBend_0 : decode cX4_setBend 0 = .ok (.aload_n 0, 1) := by decide +kernel
theorem dX4_setBend_1 : decode cX4_setBend 1 = .ok (.iload_n 1, 1) := by decide +kernel
theorem dX4_setBend_2 : decode cX4_setBend 2 = .ok (.invokevirtual 50, 3) := by decide +kernel
theorem dX4_setBend_5 : decode cX4_setBend 5 = .ok (.ifCond .eq 10, 3) := by decide +kernel
theorem dX4_setBend_8 : decode cX4_setBend 8 = .ok (.aload_n 0, 1) := by decide +kernel
theorem dX4_setBend_9 : decode cX4_setBend 9 = .ok (.getfield 15, 3) := by decide +kernel
theorem dX4_setBend_12 : decode cX4_setBend 12 = .ok (.iload_n 1, 1) := by decide +kernel
theorem dX4_setBend_13 : decode cX4_setBend 13 = .ok (.iload_n 2, 1) := by decide +kernel
theorem dX4_setBend_14 : decode cX4_setBend 14 = .ok (.iastore, 1) := by decide +kernel
theorem dX4_setBend_15 : decode cX4_setBend 15 = .ok (.return_, 1) := by decide +kernel
theorem dX4_addTop_0 : decode cX4_addTop 0 = .ok (.aload_n 0, 1) := by decide +kernel
theorem dX4_addTop_1 : decode cX4_addTop 1 = .ok (.getfield 34, 3) := by decide +kernel
theorem dX4_addTop_4 : decode cX4_addTop 4 = .ok (.ifCond .lt 12, 3) := by decide +kernel
theorem dX4_addTop_7 : decode cX4_addTop 7 = .ok (.aload_n 0, 1) := by decide +kernel
theorem dX4_addTop_8 : decode cX4_addTop 8 = .ok (.getfield 34, 3) := by decide +kernel
theorem dX4_addTop_11 : decode cX4_addTop 11 = .ok (.bipush 9, 2) := by decide +kernel
theorem dX4_addTop_13 : decode cX4_addTop 13 = .ok (.if_icmp .lt 5, 3) := by decide +kernel
theorem dX4_addTop_16 : decode cX4_addTop 16 = .ok (.iconst 0, 1) := by decide +kernel
theorem dX4_addTop_17 : decode cX4_addTop 17 = .ok (.ireturn, 1) := by decide +kernel
theorem dX4_addTop_18 : decode cX4_addTop 18 = .ok (.aload_n 0, 1) := by decide +kernel
theorem dX4_addTop_19 : decode cX4_addTop 19 = .ok (.getfield 9, 3) := by decide +kernel
theorem dX4_addTop_22 : decode cX4_addTop 22 = .ok (.aload_n 0, 1) := by decide +kernel
theorem dX4_addTop_23 : decode cX4_addTop 23 = .ok (.getfield 34, 3) := by decide +kernel
theorem dX4_addTop_26 : decode cX4_addTop 26 = .ok (.iload_n 1, 1) := by decide +kernel
theorem dX4_addTop_27 : decode cX4_addTop 27 = .ok (.iastore, 1) := by decide +kernel
theorem dX4_addTop_28 : decode cX4_addTop 28 = .ok (.aload_n 0, 1) := by decide +kernel
theorem dX4_addTop_29 : decode cX4_addTop 29 = .ok (.getfield 15, 3) := by decide +kernel
theorem dX4_addTop_32 : decode cX4_addTop 32 = .ok (.aload_n 0, 1) := by decide +kernel
theorem dX4_addTop_33 : decode cX4_addTop 33 = .ok (.getfield 34, 3) := by decide +kernel
theorem dX4_addTop_36 : decode cX4_addTop 36 = .ok (.iload_n 2, 1) := by decide +kernel
theorem dX4_addTop_37 : decode cX4_addTop 37 = .ok (.iastore, 1) := by decide +kernel
theorem dX4_addTop_38 : decode cX4_addTop 38 = .ok (.aload_n 0, 1) := by decide +kernel
theorem dX4_addTop_39 : decode cX4_addTop 39 = .ok (.getfield 18, 3) := by decide +kernel
theorem dX4_addTop_42 : decode cX4_addTop 42 = .ok (.aload_n 0, 1) := by decide +kernel
theorem dX4_addTop_43 : decode cX4_addTop 43 = .ok (.getfield 34, 3) := by decide +kernel
theorem dX4_addTop_46 : decode cX4_addTop 46 = .ok (.aload_n 0, 1) := by decide +kernel
theorem dX4_addTop_47 : decode cX4_addTop 47 = .ok (.getfield 37, 3) := by decide +kernel
theorem dX4_addTop_50 : decode cX4_addTop 50 = .ok (.iastore, 1) := by decide +kernel
theorem dX4_addTop_51 : decode cX4_addTop 51 = .ok (.aload_n 0, 1) := by decide +kernel
theorem dX4_addTop_52 : decode cX4_addTop 52 = .ok (.dup, 1) := by decide +kernel
theorem dX4_addTop_53 : decode cX4_addTop 53 = .ok (.getfield 34, 3) := by decide +kernel
theorem dX4_addTop_56 : decode cX4_addTop 56 = .ok (.iconst 1, 1) := by decide +kernel
theorem dX4_addTop_57 : decode cX4_addTop 57 = .ok (.iadd, 1) := by decide +kernel
theorem dX4_addTop_58 : decode cX4_addTop 58 = .ok (.putfield 34, 3) := by decide +kernel
theorem dX4_addTop_61 : decode cX4_addTop 61 = .ok (.iconst 1, 1) := by decide +kernel
theorem dX4_addTop_62 : decode cX4_addTop 62 = .ok (.ireturn, 1) := by decide +kernel
theorem dX4_dropTop_0 : decode cX4_dropTop 0 = .ok (.aload_n 0, 1) := by decide +kernel
theorem dX4_dropTop_1 : decode cX4_dropTop 1 = .ok (.getfield 34, 3) := by decide +kernel
theorem dX4_dropTop_4 : decode cX4_dropTop 4 = .ok (.iconst 2, 1) := by decide +kernel
theorem dX4_dropTop_5 : decode cX4_dropTop 5 = .ok (.if_icmp .ge 5, 3) := by decide +kernel
theorem dX4_dropTop_8 : decode cX4_dropTop 8 = .ok (.iconst 0, 1) := by decide +kernel
theorem dX4_dropTop_9 : decode cX4_dropTop 9 = .ok (.ireturn, 1) := by decide +kernel
theorem dX4_dropTop_10 : decode cX4_dropTop 10 = .ok (.aload_n 0, 1) := by decide +kernel
theorem dX4_dropTop_11 : decode cX4_dropTop 11 = .ok (.dup, 1) := by decide +kernel
theorem dX4_dropTop_12 : decode cX4_dropTop 12 = .ok (.getfield 34, 3) := by decide +kernel
theorem dX4_dropTop_15 : decode cX4_dropTop 15 = .ok (.iconst 1, 1) := by decide +kernel
theorem dX4_dropTop_16 : decode cX4_dropTop 16 = .ok (.isub, 1) := by decide +kernel
theorem dX4_dropTop_17 : decode cX4_dropTop 17 = .ok (.putfield 34, 3) := by decide +kernel
theorem dX4_dropTop_20 : decode cX4_dropTop 20 = .ok (.iconst 1, 1) := by decide +kernel
theorem dX4_dropTop_21 : decode cX4_dropTop 21 = .ok (.ireturn, 1) := by decide +kernel
theorem dJ9_floorMod_7cf53_0 : decode cJ9_floorMod_7cf53 0 = .ok (.iload_n 0, 1) := by decide +kernel
theorem dJ9_floorMod_7cf53_1 : decode cJ9_floorMod_7cf53 1 = .ok (.iload_n 1, 1) := by decide +kernel
theorem dJ9_floorMod_7cf53_2 : decode cJ9_floorMod_7cf53 2 = .ok (.irem, 1) := by decide +kernel
theorem dJ9_floorMod_7cf53_3 : decode cJ9_floorMod_7cf53 3 = .ok (.istore_n 2, 1) := by decide +kernel
theorem dJ9_floorMod_7cf53_4 : decode cJ9_floorMod_7cf53 4 = .ok (.iload_n 0, 1) := by decide +kernel
theorem dJ9_floorMod_7cf53_5 : decode cJ9_floorMod_7cf53 5 = .ok (.iload_n 1, 1) := by decide +kernel
theorem dJ9_floorMod_7cf53_6 : decode cJ9_floorMod_7cf53 6 = .ok (.ixor, 1) := by decide +kernel
theorem dJ9_floorMod_7cf53_7 : decode cJ9_floorMod_7cf53 7 = .ok (.ifCond .ge 11, 3) := by decide +kernel
theorem dJ9_floorMod_7cf53_10 : decode cJ9_floorMod_7cf53 10 = .ok (.iload_n 2, 1) := by decide +kernel
theorem dJ9_floorMod_7cf53_11 : decode cJ9_floorMod_7cf53 11 = .ok (.ifCond .eq 7, 3) := by decide +kernel
theorem dJ9_floorMod_7cf53_14 : decode cJ9_floorMod_7cf53 14 = .ok (.iload_n 2, 1) := by decide +kernel
theorem dJ9_floorMod_7cf53_15 : decode cJ9_floorMod_7cf53 15 = .ok (.iload_n 1, 1) := by decide +kernel
theorem dJ9_floorMod_7cf53_16 : decode cJ9_floorMod_7cf53 16 = .ok (.iadd, 1) := by decide +kernel
theorem dJ9_floorMod_7cf53_17 : decode cJ9_floorMod_7cf53 17 = .ok (.ireturn, 1) := by decide +kernel
theorem dJ9_floorMod_7cf53_18 : decode cJ9_floorMod_7cf53 18 = .ok (.iload_n 2, 1) := by decide +kernel
theorem dJ9_floorMod_7cf53_19 : decode cJ9_floorMod_7cf53 19 = .ok (.ireturn, 1) := by decide +kernel
theorem dJ9_max_7cf53_0 : decode cJ9_max_7cf53 0 = .ok (.iload_n 0, 1) := by decide +kernel
theorem dJ9_max_7cf53_1 : decode cJ9_max_7cf53 1 = .ok (.iload_n 1, 1) := by decide +kernel
theorem dJ9_max_7cf53_2 : decode cJ9_max_7cf53 2 = .ok (.if_icmp .lt 7, 3) := by decide +kernel
theorem dJ9_max_7cf53_5 : decode cJ9_max_7cf53 5 = .ok (.iload_n 0, 1) := by decide +kernel
theorem dJ9_max_7cf53_6 : decode cJ9_max_7cf53 6 = .ok (.goto 4, 3) := by decide +kernel
theorem dJ9_max_7cf53_9 : decode cJ9_max_7cf53 9 = .ok (.iload_n 1, 1) := by decide +kernel
theorem dJ9_max_7cf53_10 : decode cJ9_max_7cf53 10 = .ok (.ireturn, 1) := by decide +kernel
theorem dJ9_min_7cf53_0 : decode cJ9_min_7cf53 0 = .ok (.iload_n 0, 1) := by decide +kernel
theorem dJ9_min_7cf53_1 : decode cJ9_min_7cf53 1 = .ok (.iload_n 1, 1) := by decide +kernel
theorem dJ9_min_7cf53_2 : decode cJ9_min_7cf53 2 = .ok (.if_icmp .gt 7, 3) := by decide +kernel
theorem dJ9_min_7cf53_5 : decode cJ9_min_7cf53 5 = .ok (.iload_n 0, 1) := by decide +kernel
theorem dJ9_min_7cf53_6 : decode cJ9_min_7cf53 6 = .ok (.goto 4, 3) := by decide +kernel
theorem dJ9_min_7cf53_9 : decode cJ9_min_7cf53 9 = .ok (.iload_n 1, 1) := by decide +kernel
theorem dJ9_min_7cf53_10 : decode cJ9_min_7cf53 10 = .ok (.ireturn, 1) := by decide +kernel
end
section
set_option maxRecDepth 20000 in
theorem ggX5_init_X4_init : GoodIn wsX5_init wsX4_init := goodIn_r _ [25, 26, 2, 3, 27, 28, 29, 30, 52, 53, 54, 55, 56, 57, 58] (by decide +kernel) (by decide +kernel)
set_option maxRecDepth 20000 in
theorem gX5_init_X4_init_n11 : GoodIn wsX5_init (wsX4_init) := ggX5_init_X4_init
set_option maxRecDepth 20000 in
theorem ggX5_init_X2_init : GoodIn wsX5_init wsX2_init := goodIn_r _ [32, 33, 2, 3, 27, 34, 35, 66, 67, 68] (by decide +kernel) (by decide +kernel)
set_option maxRecDepth 20000 in
theorem gX5_init_X2_init_n20 : GoodIn wsX5_init (wsX2_init) := ggX5_init_X2_init
set_option maxRecDepth 20000 in
theorem ggX5_init_X0_init : GoodIn wsX5_init wsX0_init := goodIn_r _ [37, 38, 2, 3, 39, 5, 6, 40, 24, 25, 26, 27, 28, 29, 30, 52, 53, 54, 55, 56, 57, 58, 69, 70, 71] (by decide +kernel) (by decide +kernel)
set_option maxRecDepth 20000 in
theorem gX5_init_X0_init_n27 : GoodIn wsX5_init (wsX0_init) := ggX5_init_X0_init
set_option maxRecDepth 20000 in
theorem ggX5_init_X1_init : GoodIn wsX5_init wsX1_init := goodIn_r _ [42, 43, 2, 3, 27, 44, 45, 46, 72, 73, 74, 75, 76] (by decide +kernel) (by decide +kernel)
set_option maxRecDepth 20000 in
theorem gX5_init_X1_init_n34 : GoodIn wsX5_init (wsX1_init) := ggX5_init_X1_init
set_option maxRecDepth 20000 in
theorem ggX5_init_X3_init : GoodIn wsX5_init wsX3_init := goodIn_r _ [48, 49, 2, 3, 27, 50, 51, 77, 78, 79] (by decide +kernel) (by decide +kernel)
set_option maxRecDepth 20000 in
theorem gX5_init_X3_init_n45 : GoodIn wsX5_init (wsX3_init) := ggX5_init_X3_init
theorem dX5_init_0 : decode cX5_init 0 = .ok (.aload_n 0, 1) := by decide +kernel
theorem dX5_init_1 : decode cX5_init 1 = .ok (.invokespecial 3, 3) := by decide +kernel
theorem dX5_init_4 : decode cX5_init 4 = .ok (.aload_n 0, 1) := by decide +kernel
theorem dX5_init_5 : decode cX5_init 5 = .ok (.new 9, 3) := by decide +kernel
theorem dX5_init_8 : decode cX5_init 8 = .ok (.dup, 1) := by decide +kernel
theorem dX5_init_9 : decode cX5_init 9 = .ok (.invokespecial 11, 3) := by decide +kernel
theorem dX5_init_12 : decode cX5_init 12 = .ok (.putfield 12, 3) := by decide +kernel
theorem dX5_init_15 : decode cX5_init 15 = .ok (.aload_n 0, 1) := by decide +kernel
theorem dX5_init_16 : decode cX5_init 16 = .ok (.new 18, 3) := by decide +kernel
theorem dX5_init_19 : decode cX5_init 19 = .ok (.dup, 1) := by decide +kernel
theorem dX5_init_20 : decode cX5_init 20 = .ok (.invokespecial 20, 3) := by decide +kernel
theorem dX5_init_23 : decode cX5_init 23 = .ok (.putfield 21, 3) := by decide +kernel
theorem dX5_init_26 : decode cX5_init 26 = .ok (.aload_n 0, 1) := by decide +kernel
theorem dX5_init_27 : decode cX5_init 27 = .ok (.new 25, 3) := by decide +kernel
theorem dX5_init_30 : decode cX5_init 30 = .ok (.dup, 1) := by decide +kernel
theorem dX5_init_31 : decode cX5_init 31 = .ok (.invokespecial 27, 3) := by decide +kernel
theorem dX5_init_34 : decode cX5_init 34 = .ok (.putfield 28, 3) := by decide +kernel
theorem dX5_init_37 : decode cX5_init 37 = .ok (.aload_n 0, 1) := by decide +kernel
theorem dX5_init_38 : decode cX5_init 38 = .ok (.new 32, 3) := by decide +kernel
theorem dX5_init_41 : decode cX5_init 41 = .ok (.dup, 1) := by decide +kernel
theorem dX5_init_42 : decode cX5_init 42 = .ok (.invokespecial 34, 3) := by decide +kernel
theorem dX5_init_45 : decode cX5_init 45 = .ok (.putfield 35, 3) := by decide +kernel
theorem dX5_init_48 : decode cX5_init 48 = .ok (.aload_n 0, 1) := by decide +kernel
theorem dX5_init_49 : decode cX5_init 49 = .ok (.iconst 4, 1) := by decide +kernel
theorem dX5_init_50 : decode cX5_init 50 = .ok (.anewarray 39, 3) := by decide +kernel
theorem dX5_init_53 : decode cX5_init 53 = .ok (.putfield 41, 3) := by decide +kernel
theorem dX5_init_56 : decode cX5_init 56 = .ok (.iconst 0, 1) := by decide +kernel
theorem dX5_init_57 : decode cX5_init 57 = .ok (.istore_n 1, 1) := by decide +kernel
theorem dX5_init_58 : decode cX5_init 58 = .ok (.iload_n 1, 1) := by decide +kernel
theorem dX5_init_59 : decode cX5_init 59 = .ok (.iconst 4, 1) := by decide +kernel
theorem dX5_init_60 : decode cX5_init 60 = .ok (.if_icmp .ge 22, 3) := by decide +kernel
theorem dX5_init_63 : decode cX5_init 63 = .ok (.aload_n 0, 1) := by decide +kernel
theorem dX5_init_64 : decode cX5_init 64 = .ok (.getfield 41, 3) := by decide +kernel
theorem dX5_init_67 : decode cX5_init 67 = .ok (.iload_n 1, 1) := by decide +kernel
theorem dX5_init_68 : decode cX5_init 68 = .ok (.new 39, 3) := by decide +kernel
theorem dX5_init_71 : decode cX5_init 71 = .ok (.dup, 1) := by decide +kernel
theorem dX5_init_72 : decode cX5_init 72 = .ok (.invokespecial 45, 3) := by decide +kernel
theorem dX5_init_75 : decode cX5_init 75 = .ok (.aastore, 1) := by decide +kernel
theorem dX5_init_76 : decode cX5_init 76 = .ok (.iinc 1 1, 3) := by decide +kernel
theorem dX5_init_79 : decode cX5_init 79 = .ok (.goto (-21), 3) := by decide +kernel
theorem dX5_init_82 : decode cX5_init 82 = .ok (.return_, 1) := by decide +kernel
set_option maxRecDepth 20000 in
theorem ggX5_well_X5_isSheet : GoodIn wsX5_well wsX5_isSheet := goodIn_r _ [9] (by decide +kernel) (by decide +kernel)
set_option maxRecDepth 20000 in
theorem gX5_well_X5_isSheet : GoodIn wsX5_well (va_wsS RX5 50 yX5_isSheet wsX5_isSheet) := goodIn_app (goodIn_of _ (by decide +kernel)) ggX5_well_X5_isSheet
set_option maxRecDepth 20000 in
theorem ggX5_well_X5_isLane : GoodIn wsX5_well wsX5_isLane := goodIn_r _ [12] (by decide +kernel) (by decide +kernel)
set_option maxRecDepth 20000 in
theorem gX5_well_X5_isLane : GoodIn wsX5_well (va_wsS RX5 54 yX5_isLane wsX5_isLane) := goodIn_app (goodIn_of _ (by decide +kernel)) ggX5_well_X5_isLane
set_option maxRecDepth 20000 in
theorem ggX5_well_X3_faultAs : GoodIn wsX5_well wsX3_faultAs := goodIn_r _ [17, 18, 19, 20, 21, 16, 22, 81, 82, 83] (by decide +kernel) (by decide +kernel)
set_option maxRecDepth 20000 in
theorem gX5_well_X3_faultAs : GoodIn wsX5_well (wsV RX5 57 RX3 yX3_faultAs wsX3_faultAs) := goodIn_app (goodIn_of _ (by decide +kernel)) ggX5_well_X3_faultAs
set_option maxRecDepth 20000 in
theorem ggX5_well_X3_hasCells : GoodIn wsX5_well wsX3_hasCells := goodIn_r _ [26, 27, 81, 82, 83] (by decide +kernel) (by decide +kernel)
set_option maxRecDepth 20000 in
theorem gX5_well_X3_hasCells : GoodIn wsX5_well (wsV RX5 61 RX3 yX3_hasCells wsX3_hasCells) := goodIn_app (goodIn_of _ (by decide +kernel)) ggX5_well_X3_hasCells
set_option maxRecDepth 20000 in
theorem ggX5_well_X5_failed : GoodIn wsX5_well wsX5_failed := goodIn_r _ [31, 1, 67, 68, 69, 70, 71, 72, 73] (by decide +kernel) (by decide +kernel)
set_option maxRecDepth 20000 in
theorem gX5_well_X5_failed : GoodIn wsX5_well (wsV RX5 65 RX5 yX5_failed wsX5_failed) := goodIn_app (goodIn_of _ (by decide +kernel)) ggX5_well_X5_failed
set_option maxRecDepth 20000 in
theorem ggX5_well_X5_firstFault : GoodIn wsX5_well wsX5_firstFault := goodIn_r _ [34, 35, 36, 37, 16, 38, 39, 40, 24, 25, 26, 27, 41, 42, 8, 43, 81, 82, 83] (by decide +kernel) (by decide +kernel)
set_option maxRecDepth 20000 in
theorem gX5_well_X5_firstFault : GoodIn wsX5_well (va_wsS RX5 68 yX5_firstFault wsX5_firstFault) := goodIn_app (goodIn_of _ (by decide +kernel)) ggX5_well_X5_firstFault
set_option maxRecDepth 20000 in
theorem ggX5_well_X4_fill : GoodIn wsX5_well wsX4_fill := goodIn_r _ [48, 49, 50, 51, 52, 53, 36, 37, 16, 38, 39, 40, 24, 25, 26, 27, 54, 55, 56, 47, 57, 58, 59, 60, 74, 75, 76, 77, 78, 79, 80, 81, 82, 83] (by decide +kernel) (by decide +kernel)
set_option maxRecDepth 20000 in
theorem gX5_well_X4_fill : GoodIn wsX5_well (wsV RX5 72 RX4 yX4_fill wsX4_fill) := goodIn_app (goodIn_of _ (by decide +kernel)) ggX5_well_X4_fill
set_option maxRecDepth 20000 in
theorem ggX5_well_X2_clear : GoodIn wsX5_well wsX2_clear := goodIn_r _ [65, 66, 84, 85, 86] (by decide +kernel) (by decide +kernel)
set_option maxRecDepth 20000 in
theorem gX5_well_X2_clear : GoodIn wsX5_well (wsV RX5 76 RX2 yX2_clear wsX2_clear) := goodIn_app (goodIn_of _ (by decide +kernel)) ggX5_well_X2_clear
theorem dX5_well_0 : decode cX5_well 0 = .ok (.aload_n 0, 1) := by decide +kernel
theorem dX5_well_1 : decode cX5_well 1 = .ok (.iconst 0, 1) := by decide +kernel
theorem dX5_well_2 : decode cX5_well 2 = .ok (.putfield 46, 3) := by decide +kernel
theorem dX5_well_5 : decode cX5_well 5 = .ok (.iload_n 1, 1) := by decide +kernel
theorem dX5_well_6 : decode cX5_well 6 = .ok (.invokestatic 50, 3) := by decide +kernel
theorem dX5_well_9 : decode cX5_well 9 = .ok (.ifCond .ne 5, 3) := by decide +kernel
theorem dX5_well_12 : decode cX5_well 12 = .ok (.iconst (-1), 1) := by decide +kernel
theorem dX5_well_13 : decode cX5_well 13 = .ok (.ireturn, 1) := by decide +kernel
theorem dX5_well_14 : decode cX5_well 14 = .ok (.iload_n 2, 1) := by decide +kernel
theorem dX5_well_15 : decode cX5_well 15 = .ok (.invokestatic 54, 3) := by decide +kernel
theorem dX5_well_18 : decode cX5_well 18 = .ok (.ifCond .ne 6, 3) := by decide +kernel
theorem dX5_well_21 : decode cX5_well 21 = .ok (.bipush (-2), 2) := by decide +kernel
theorem dX5_well_23 : decode cX5_well 23 = .ok (.ireturn, 1) := by decide +kernel
theorem dX5_well_24 : decode cX5_well 24 = .ok (.aload_n 0, 1) := by decide +kernel
theorem dX5_well_25 : decode cX5_well 25 = .ok (.getfield 41, 3) := by decide +kernel
theorem dX5_well_28 : decode cX5_well 28 = .ok (.iload_n 1, 1) := by decide +kernel
theorem dX5_well_29 : decode cX5_well 29 = .ok (.aaload, 1) := by decide +kernel
theorem dX5_well_30 : decode cX5_well 30 = .ok (.astore 5, 2) := by decide +kernel
theorem dX5_well_32 : decode cX5_well 32 = .ok (.aload 5, 2) := by decide +kernel
theorem dX5_well_34 : decode cX5_well 34 = .ok (.iload_n 2, 1) := by decide +kernel
theorem dX5_well_35 : decode cX5_well 35 = .ok (.invokevirtual 57, 3) := by decide +kernel
theorem dX5_well_38 : decode cX5_well 38 = .ok (.istore 6, 2) := by decide +kernel
theorem dX5_well_40 : decode cX5_well 40 = .ok (.iload 6, 2) := by decide +kernel
theorem dX5_well_42 : decode cX5_well 42 = .ok (.ifCond .ne 11, 3) := by decide +kernel
theorem dX5_well_45 : decode cX5_well 45 = .ok (.iload 4, 2) := by decide +kernel
theorem dX5_well_47 : decode cX5_well 47 = .ok (.ifCond .ge 6, 3) := by decide +kernel
theorem dX5_well_50 : decode cX5_well 50 = .ok (.iconst 4, 1) := by decide +kernel
theorem dX5_well_51 : decode cX5_well 51 = .ok (.istore 6, 2) := by decide +kernel
theorem dX5_well_53 : decode cX5_well 53 = .ok (.iload 6, 2) := by decide +kernel
theorem dX5_well_55 : decode cX5_well 55 = .ok (.ifCond .ne 17, 3) := by decide +kernel
theorem dX5_well_58 : decode cX5_well 58 = .ok (.aload 5, 2) := by decide +kernel
theorem dX5_well_60 : decode cX5_well 60 = .ok (.iload_n 3, 1) := by decide +kernel
theorem dX5_well_61 : decode cX5_well 61 = .ok (.iload 4, 2) := by decide +kernel
theorem dX5_well_63 : decode cX5_well 63 = .ok (.invokevirtual 61, 3) := by decide +kernel
theorem dX5_well_66 : decode cX5_well 66 = .ok (.ifCond .ne 6, 3) := by decide +kernel
theorem dX5_well_69 : decode cX5_well 69 = .ok (.iconst 3, 1) := by decide +kernel
theorem dX5_well_70 : decode cX5_well 70 = .ok (.istore 6, 2) := by decide +kernel
theorem dX5_well_72 : decode cX5_well 72 = .ok (.iload 6, 2) := by decide +kernel
theorem dX5_well_74 : decode cX5_well 74 = .ok (.ifCond .eq 10, 3) := by decide +kernel
theorem dX5_well_77 : decode cX5_well 77 = .ok (.aload_n 0, 1) := by decide +kernel
theorem dX5_well_78 : decode cX5_well 78 = .ok (.iload 6, 2) := by decide +kernel
theorem dX5_well_80 : decode cX5_well 80 = .ok (.invokevirtual 65, 3) := by decide +kernel
theorem dX5_well_83 : decode cX5_well 83 = .ok (.ireturn, 1) := by decide +kernel
theorem dX5_well_84 : decode cX5_well 84 = .ok (.aload 5, 2) := by decide +kernel
theorem dX5_well_86 : decode cX5_well 86 = .ok (.iload_n 3, 1) := by decide +kernel
theorem dX5_well_87 : decode cX5_well 87 = .ok (.iload 4, 2) := by decide +kernel
theorem dX5_well_89 : decode cX5_well 89 = .ok (.invokestatic 68, 3) := by decide +kernel
theorem dX5_well_92 : decode cX5_well 92 = .ok (.istore 7, 2) := by decide +kernel
theorem dX5_well_94 : decode cX5_well 94 = .ok (.iload 7, 2) := by decide +kernel
theorem dX5_well_96 : decode cX5_well 96 = .ok (.bipush (-9), 2) := by decide +kernel
theorem dX5_well_98 : decode cX5_well 98 = .ok (.if_icmp .eq 9, 3) := by decide +kernel
theorem dX5_well_101 : decode cX5_well 101 = .ok (.bipush (-100), 2) := by decide +kernel
theorem dX5_well_103 : decode cX5_well 103 = .ok (.iload 7, 2) := by decide +kernel
theorem dX5_well_105 : decode cX5_well 105 = .ok (.isub, 1) := by decide +kernel
theorem dX5_well_106 : decode cX5_well 106 = .ok (.ireturn, 1) := by decide +kernel
theorem dX5_well_107 : decode cX5_well 107 = .ok (.aload_n 0, 1) := by decide +kernel
theorem dX5_well_108 : decode cX5_well 108 = .ok (.getfield 12, 3) := by decide +kernel
theorem dX5_well_111 : decode cX5_well 111 = .ok (.aload 5, 2) := by decide +kernel
theorem dX5_well_113 : decode cX5_well 113 = .ok (.iload_n 3, 1) := by decide +kernel
theorem dX5_well_114 : decode cX5_well 114 = .ok (.iload 4, 2) := by decide +kernel
theorem dX5_well_116 : decode cX5_well 116 = .ok (.invokevirtual 72, 3) := by decide +kernel
theorem dX5_well_119 : decode cX5_well 119 = .ok (.aload_n 0, 1) := by decide +kernel
theorem dX5_well_120 : decode cX5_well 120 = .ok (.getfield 21, 3) := by decide +kernel
theorem dX5_well_123 : decode cX5_well 123 = .ok (.invokevirtual 76, 3) := by decide +kernel
theorem dX5_well_126 : decode cX5_well 126 = .ok (.aload_n 0, 1) := by decide +kernel
theorem dX5_well_127 : decode cX5_well 127 = .ok (.getfield 12, 3) := by decide +kernel
theorem dX5_well_130 : decode cX5_well 130 = .ok (.getfield 79, 3) := by decide +kernel
theorem dX5_well_133 : decode cX5_well 133 = .ok (.ireturn, 1) := by decide +kernel
set_option maxRecDepth 20000 in
theorem ggX5_ofPin_X4_isPin : GoodIn wsX5_ofPin wsX4_isPin := goodIn_r _ [7, 8, 44, 45, 46, 47, 48, 49, 50] (by decide +kernel) (by decide +kernel)
set_option maxRecDepth 20000 in
theorem gX5_ofPin_X4_isPin : GoodIn wsX5_ofPin (wsV RX5 82 RX4 yX4_isPin wsX4_isPin) := goodIn_app (goodIn_of _ (by decide +kernel)) ggX5_ofPin_X4_isPin
set_option maxRecDepth 20000 in
theorem ggX5_ofPin_X4_kindAt : GoodIn wsX5_ofPin wsX4_kindAt := goodIn_r _ [12, 13, 14, 4, 5, 6, 7, 8, 44, 45, 46, 47, 48, 49, 50] (by decide +kernel) (by decide +kernel)
set_option maxRecDepth 20000 in
theorem gX5_ofPin_X4_kindAt : GoodIn wsX5_ofPin (wsV RX5 85 RX4 yX4_kindAt wsX4_kindAt) := goodIn_app (goodIn_of _ (by decide +kernel)) ggX5_ofPin_X4_kindAt
set_option maxRecDepth 20000 in
theorem ggX5_ofPin_X4_bendAt : GoodIn wsX5_ofPin wsX4_bendAt := goodIn_r _ [18, 19, 14, 4, 5, 6, 7, 8, 44, 45, 46, 47, 48, 49, 50] (by decide +kernel) (by decide +kernel)
set_option maxRecDepth 20000 in
theorem gX5_ofPin_X4_bendAt : GoodIn wsX5_ofPin (wsV RX5 88 RX4 yX4_bendAt wsX4_bendAt) := goodIn_app (goodIn_of _ (by decide +kernel)) ggX5_ofPin_X4_bendAt
set_option maxRecDepth 20000 in
theorem ggX5_ofPin_X4_yearAt : GoodIn wsX5_ofPin wsX4_yearAt := goodIn_r _ [23, 24, 14, 4, 5, 6, 7, 8, 44, 45, 46, 47, 48, 49, 50] (by decide +kernel) (by decide +kernel)
set_option maxRecDepth 20000 in
theorem gX5_ofPin_X4_yearAt : GoodIn wsX5_ofPin (wsV RX5 91 RX4 yX4_yearAt wsX4_yearAt) := goodIn_app (goodIn_of _ (by decide +kernel)) ggX5_ofPin_X4_yearAt
set_option maxRecDepth 20000 in
theorem ggX5_ofPin_X5_turnOf : GoodIn wsX5_ofPin wsX5_turnOf := goodIn_r _ [28] (by decide +kernel) (by decide +kernel)
set_option maxRecDepth 20000 in
theorem gX5_ofPin_X5_turnOf : GoodIn wsX5_ofPin (va_wsS RX5 94 yX5_turnOf wsX5_turnOf) := goodIn_app (goodIn_of _ (by decide +kernel)) ggX5_ofPin_X5_turnOf
set_option maxRecDepth 20000 in
theorem ggX5_ofPin_X4_wishAt : GoodIn wsX5_ofPin wsX4_wishAt := goodIn_r _ [32, 33, 13, 19, 34, 24, 14, 4, 5, 6, 7, 8, 26, 27, 28, 35, 36, 44, 45, 46, 47, 48, 49, 50] (by decide +kernel) (by decide +kernel)
set_option maxRecDepth 20000 in
theorem gX5_ofPin_X4_wishAt : GoodIn wsX5_ofPin (wsV RX5 98 RX4 yX4_wishAt wsX4_wishAt) := goodIn_app (goodIn_of _ (by decide +kernel)) ggX5_ofPin_X4_wishAt
theorem dX5_ofPin_0 : decode cX5_ofPin 0 = .ok (.aload_n 0, 1) := by decide +kernel
theorem dX5_ofPin_1 : decode cX5_ofPin 1 = .ok (.getfield 12, 3) := by decide +kernel
theorem dX5_ofPin_4 : decode cX5_ofPin 4 = .ok (.iload_n 1, 1) := by decide +kernel
theorem dX5_ofPin_5 : decode cX5_ofPin 5 = .ok (.invokevirtual 82, 3) := by decide +kernel
theorem dX5_ofPin_8 : decode cX5_ofPin 8 = .ok (.ifCond .ne 5, 3) := by decide +kernel
theorem dX5_ofPin_11 : decode cX5_ofPin 11 = .ok (.iconst (-1), 1) := by decide +kernel
theorem dX5_ofPin_12 : decode cX5_ofPin 12 = .ok (.ireturn, 1) := by decide +kernel
theorem dX5_ofPin_13 : decode cX5_ofPin 13 = .ok (.iload_n 2, 1) := by decide +kernel
theorem dX5_ofPin_14 : decode cX5_ofPin 14 = .ok (.tableswitch 111 0 5 #[38, 47, 56, 65, 85, 94], 38) := by decide +kernel
theorem dX5_ofPin_52 : decode cX5_ofPin 52 = .ok (.aload_n 0, 1) := by decide +kernel
theorem dX5_ofPin_53 : decode cX5_ofPin 53 = .ok (.getfield 12, 3) := by decide +kernel
theorem dX5_ofPin_56 : decode cX5_ofPin 56 = .ok (.iload_n 1, 1) := by decide +kernel
theorem dX5_ofPin_57 : decode cX5_ofPin 57 = .ok (.invokevirtual 85, 3) := by decide +kernel
theorem dX5_ofPin_60 : decode cX5_ofPin 60 = .ok (.ireturn, 1) := by decide +kernel
theorem dX5_ofPin_61 : decode cX5_ofPin 61 = .ok (.aload_n 0, 1) := by decide +kernel
theorem dX5_ofPin_62 : decode cX5_ofPin 62 = .ok (.getfield 12, 3) := by decide +kernel
theorem dX5_ofPin_65 : decode cX5_ofPin 65 = .ok (.iload_n 1, 1) := by decide +kernel
theorem dX5_ofPin_66 : decode cX5_ofPin 66 = .ok (.invokevirtual 88, 3) := by decide +kernel
theorem dX5_ofPin_69 : decode cX5_ofPin 69 = .ok (.ireturn, 1) := by decide +kernel
theorem dX5_ofPin_70 : decode cX5_ofPin 70 = .ok (.aload_n 0, 1) := by decide +kernel
theorem dX5_ofPin_71 : decode cX5_ofPin 71 = .ok (.getfield 12, 3) := by decide +kernel
theorem dX5_ofPin_74 : decode cX5_ofPin 74 = .ok (.iload_n 1, 1) := by decide +kernel
theorem dX5_ofPin_75 : decode cX5_ofPin 75 = .ok (.invokevirtual 91, 3) := by decide +kernel
theorem dX5_ofPin_78 : decode cX5_ofPin 78 = .ok (.ireturn, 1) := by decide +kernel
theorem dX5_ofPin_79 : decode cX5_ofPin 79 = .ok (.aload_n 0, 1) := by decide +kernel
theorem dX5_ofPin_80 : decode cX5_ofPin 80 = .ok (.getfield 12, 3) := by decide +kernel
theorem dX5_ofPin_83 : decode cX5_ofPin 83 = .ok (.iload_n 1, 1) := by decide +kernel
theorem dX5_ofPin_84 : decode cX5_ofPin 84 = .ok (.invokevirtual 85, 3) := by decide +kernel
theorem dX5_ofPin_87 : decode cX5_ofPin 87 = .ok (.aload_n 0, 1) := by decide +kernel
theorem dX5_ofPin_88 : decode cX5_ofPin 88 = .ok (.getfield 12, 3) := by decide +kernel
theorem dX5_ofPin_91 : decode cX5_ofPin 91 = .ok (.iload_n 1, 1) := by decide +kernel
theorem dX5_ofPin_92 : decode cX5_ofPin 92 = .ok (.invokevirtual 88, 3) := by decide +kernel
theorem dX5_ofPin_95 : decode cX5_ofPin 95 = .ok (.invokestatic 94, 3) := by decide +kernel
theorem dX5_ofPin_98 : decode cX5_ofPin 98 = .ok (.ireturn, 1) := by decide +kernel
theorem dX5_ofPin_99 : decode cX5_ofPin 99 = .ok (.aload_n 0, 1) := by decide +kernel
theorem dX5_ofPin_100 : decode cX5_ofPin 100 = .ok (.getfield 12, 3) := by decide +kernel
theorem dX5_ofPin_103 : decode cX5_ofPin 103 = .ok (.iload_n 1, 1) := by decide +kernel
theorem dX5_ofPin_104 : decode cX5_ofPin 104 = .ok (.invokevirtual 98, 3) := by decide +kernel
theorem dX5_ofPin_107 : decode cX5_ofPin 107 = .ok (.ireturn, 1) := by decide +kernel
theorem dX5_ofPin_108 : decode cX5_ofPin 108 = .ok (.aload_n 0, 1) := by decide +kernel
theorem dX5_ofPin_109 : decode cX5_ofPin 109 = .ok (.getfield 12, 3) := by decide +kernel
theorem dX5_ofPin_112 : decode cX5_ofPin 112 = .ok (.getfield 101, 3) := by decide +kernel
theorem dX5_ofPin_115 : decode cX5_ofPin 115 = .ok (.aload_n 0, 1) := by decide +kernel
theorem dX5_ofPin_116 : decode cX5_ofPin 116 = .ok (.getfield 12, 3) := by decide +kernel
theorem dX5_ofPin_119 : decode cX5_ofPin 119 = .ok (.iload_n 1, 1) := by decide +kernel
theorem dX5_ofPin_120 : decode cX5_ofPin 120 = .ok (.invokevirtual 91, 3) := by decide +kernel
theorem dX5_ofPin_123 : decode cX5_ofPin 123 = .ok (.isub, 1) := by decide +kernel
theorem dX5_ofPin_124 : decode cX5_ofPin 124 = .ok (.ireturn, 1) := by decide +kernel
theorem dX5_ofPin_125 : decode cX5_ofPin 125 = .ok (.bipush (-2), 2) := by decide +kernel
theorem dX5_ofPin_127 : decode cX5_ofPin 127 = .ok (.ireturn, 1) := by decide +kernel
set_option maxRecDepth 20000 in
theorem ggX5_bend_X4_isPin : GoodIn wsX5_bend wsX4_isPin := goodIn_r _ [6, 7, 29, 30, 31, 32, 33, 34, 35] (by decide +kernel) (by decide +kernel)
set_option maxRecDepth 20000 in
theorem gX5_bend_X4_isPin : GoodIn wsX5_bend (wsV RX5 82 RX4 yX4_isPin wsX4_isPin) := goodIn_app (goodIn_of _ (by decide +kernel)) ggX5_bend_X4_isPin
set_option maxRecDepth 20000 in
theorem ggX5_bend_X5_isBend : GoodIn wsX5_bend wsX5_isBend := goodIn_r _ [11] (by decide +kernel) (by decide +kernel)
set_option maxRecDepth 20000 in
theorem gX5_bend_X5_isBend : GoodIn wsX5_bend (va_wsS RX5 104 yX5_isBend wsX5_isBend) := goodIn_app (goodIn_of _ (by decide +kernel)) ggX5_bend_X5_isBend
set_option maxRecDepth 20000 in
theorem ggX5_bend_X4_bendAt : GoodIn wsX5_bend wsX4_bendAt := goodIn_r _ [15, 16, 17, 3, 4, 5, 6, 7, 29, 30, 31, 32, 33, 34, 35] (by decide +kernel) (by decide +kernel)
set_option maxRecDepth 20000 in
theorem gX5_bend_X4_bendAt : GoodIn wsX5_bend (wsV RX5 88 RX4 yX4_bendAt wsX4_bendAt) := goodIn_app (goodIn_of _ (by decide +kernel)) ggX5_bend_X4_bendAt
set_option maxRecDepth 20000 in
theorem ggX5_bend_X4_setBend : GoodIn wsX5_bend wsX4_setBend := goodIn_r _ [21, 16, 17, 3, 4, 5, 6, 7, 29, 30, 31, 32, 33, 34, 35] (by decide +kernel) (by decide +kernel)
set_option maxRecDepth 20000 in
theorem gX5_bend_X4_setBend : GoodIn wsX5_bend (wsV RX5 107 RX4 yX4_setBend wsX4_setBend) := goodIn_app (goodIn_of _ (by decide +kernel)) ggX5_bend_X4_setBend
theorem dX5_bend_0 : decode cX5_bend 0 = .ok (.aload_n 0, 1) := by decide +kernel
theorem dX5_bend_1 : decode cX5_bend 1 = .ok (.getfield 12, 3) := by decide +kernel
theorem dX5_bend_4 : decode cX5_bend 4 = .ok (.iload_n 1, 1) := by decide +kernel
theorem dX5_bend_5 : decode cX5_bend 5 = .ok (.invokevirtual 82, 3) := by decide +kernel
theorem dX5_bend_8 : decode cX5_bend 8 = .ok (.ifCond .ne 5, 3) := by decide +kernel
theorem dX5_bend_11 : decode cX5_bend 11 = .ok (.iconst (-1), 1) := by decide +kernel
theorem dX5_bend_12 : decode cX5_bend 12 = .ok (.ireturn, 1) := by decide +kernel
theorem dX5_bend_13 : decode cX5_bend 13 = .ok (.iload_n 2, 1) := by decide +kernel
theorem dX5_bend_14 : decode cX5_bend 14 = .ok (.invokestatic 104, 3) := by decide +kernel
theorem dX5_bend_17 : decode cX5_bend 17 = .ok (.ifCond .ne 6, 3) := by decide +kernel
theorem dX5_bend_20 : decode cX5_bend 20 = .ok (.bipush (-2), 2) := by decide +kernel
theorem dX5_bend_22 : decode cX5_bend 22 = .ok (.ireturn, 1) := by decide +kernel
theorem dX5_bend_23 : decode cX5_bend 23 = .ok (.aload_n 0, 1) := by decide +kernel
theorem dX5_bend_24 : decode cX5_bend 24 = .ok (.getfield 12, 3) := by decide +kernel
theorem dX5_bend_27 : decode cX5_bend 27 = .ok (.iload_n 1, 1) := by decide +kernel
theorem dX5_bend_28 : decode cX5_bend 28 = .ok (.invokevirtual 88, 3) := by decide +kernel
theorem dX5_bend_31 : decode cX5_bend 31 = .ok (.istore_n 3, 1) := by decide +kernel
theorem dX5_bend_32 : decode cX5_bend 32 = .ok (.aload_n 0, 1) := by decide +kernel
theorem dX5_bend_33 : decode cX5_bend 33 = .ok (.getfield 12, 3) := by decide +kernel
theorem dX5_bend_36 : decode cX5_bend 36 = .ok (.iload_n 1, 1) := by decide +kernel
theorem dX5_bend_37 : decode cX5_bend 37 = .ok (.iload_n 2, 1) := by decide +kernel
theorem dX5_bend_38 : decode cX5_bend 38 = .ok (.invokevirtual 107, 3) := by decide +kernel
theorem dX5_bend_41 : decode cX5_bend 41 = .ok (.iload_n 3, 1) := by decide +kernel
theorem dX5_bend_42 : decode cX5_bend 42 = .ok (.ireturn, 1) := by decide +kernel
set_option maxRecDepth 20000 in
theorem ggX5_rekey_X5_hasWell : GoodIn wsX5_rekey wsX5_hasWell := goodIn_r _ [8, 1, 9, 13, 14, 15, 16, 17, 18, 19, 20, 21, 22, 23, 24, 25, 26] (by decide +kernel) (by decide +kernel)
set_option maxRecDepth 20000 in
theorem gX5_rekey_X5_hasWell : GoodIn wsX5_rekey (wsV RX5 111 RX5 yX5_hasWell wsX5_hasWell) := goodIn_app (goodIn_of _ (by decide +kernel)) ggX5_rekey_X5_hasWell
set_option maxRecDepth 20000 in
theorem ggX5_rekey_X5_keyNumber : GoodIn wsX5_rekey wsX5_keyNumber := goodIn_r _ [12] (by decide +kernel) (by decide +kernel)
set_option maxRecDepth 20000 in
theorem gX5_rekey_X5_keyNumber : GoodIn wsX5_rekey (va_wsS RX5 121 yX5_keyNumber wsX5_keyNumber) := goodIn_app (goodIn_of _ (by decide +kernel)) ggX5_rekey_X5_keyNumber
theorem dX5_rekey_0 : decode cX5_rekey 0 = .ok (.aload_n 0, 1) := by decide +kernel
theorem dX5_rekey_1 : decode cX5_rekey 1 = .ok (.invokevirtual 111, 3) := by decide +kernel
theorem dX5_rekey_4 : decode cX5_rekey 4 = .ok (.ifCond .ne 6, 3) := by decide +kernel
theorem dX5_rekey_7 : decode cX5_rekey 7 = .ok (.bipush (-3), 2) := by decide +kernel
theorem dX5_rekey_9 : decode cX5_rekey 9 = .ok (.ireturn, 1) := by decide +kernel
theorem dX5_rekey_10 : decode cX5_rekey 10 = .ok (.iload_n 1, 1) := by decide +kernel
theorem dX5_rekey_11 : decode cX5_rekey 11 = .ok (.iconst 1, 1) := by decide +kernel
theorem dX5_rekey_12 : decode cX5_rekey 12 = .ok (.if_icmp .lt 17, 3) := by decide +kernel
theorem dX5_rekey_15 : decode cX5_rekey 15 = .ok (.iload_n 1, 1) := by decide +kernel
theorem dX5_rekey_16 : decode cX5_rekey 16 = .ok (.iconst 5, 1) := by decide +kernel
theorem dX5_rekey_17 : decode cX5_rekey 17 = .ok (.if_icmp .gt 12, 3) := by decide +kernel
theorem dX5_rekey_20 : decode cX5_rekey 20 = .ok (.iload_n 2, 1) := by decide +kernel
theorem dX5_rekey_21 : decode cX5_rekey 21 = .ok (.ifCond .lt 8, 3) := by decide +kernel
theorem dX5_rekey_24 : decode cX5_rekey 24 = .ok (.iload_n 2, 1) := by decide +kernel
theorem dX5_rekey_25 : decode cX5_rekey 25 = .ok (.iconst 5, 1) := by decide +kernel
theorem dX5_rekey_26 : decode cX5_rekey 26 = .ok (.if_icmp .le 6, 3) := by decide +kernel
theorem dX5_rekey_29 : decode cX5_rekey 29 = .ok (.bipush (-2), 2) := by decide +kernel
theorem dX5_rekey_31 : decode cX5_rekey 31 = .ok (.ireturn, 1) := by decide +kernel
theorem dX5_rekey_32 : decode cX5_rekey 32 = .ok (.aload_n 0, 1) := by decide +kernel
theorem dX5_rekey_33 : decode cX5_rekey 33 = .ok (.getfield 12, 3) := by decide +kernel
theorem dX5_rekey_36 : decode cX5_rekey 36 = .ok (.getfield 115, 3) := by decide +kernel
theorem dX5_rekey_39 : decode cX5_rekey 39 = .ok (.aload_n 0, 1) := by decide +kernel
theorem dX5_rekey_40 : decode cX5_rekey 40 = .ok (.getfield 12, 3) := by decide +kernel
theorem dX5_rekey_43 : decode cX5_rekey 43 = .ok (.getfield 118, 3) := by decide +kernel
theorem dX5_rekey_46 : decode cX5_rekey 46 = .ok (.invokestatic 121, 3) := by decide +kernel
theorem dX5_rekey_49 : decode cX5_rekey 49 = .ok (.istore_n 3, 1) := by decide +kernel
theorem dX5_rekey_50 : decode cX5_rekey 50 = .ok (.aload_n 0, 1) := by decide +kernel
theorem dX5_rekey_51 : decode cX5_rekey 51 = .ok (.getfield 12, 3) := by decide +kernel
theorem dX5_rekey_54 : decode cX5_rekey 54 = .ok (.iload_n 1, 1) := by decide +kernel
theorem dX5_rekey_55 : decode cX5_rekey 55 = .ok (.putfield 115, 3) := by decide +kernel
theorem dX5_rekey_58 : decode cX5_rekey 58 = .ok (.aload_n 0, 1) := by decide +kernel
theorem dX5_rekey_59 : decode cX5_rekey 59 = .ok (.getfield 12, 3) := by decide +kernel
theorem dX5_rekey_62 : decode cX5_rekey 62 = .ok (.iload_n 2, 1) := by decide +kernel
theorem dX5_rekey_63 : decode cX5_rekey 63 = .ok (.putfield 118, 3) := by decide +kernel
theorem dX5_rekey_66 : decode cX5_rekey 66 = .ok (.iload_n 3, 1) := by decide +kernel
theorem dX5_rekey_67 : decode cX5_rekey 67 = .ok (.ireturn, 1) := by decide +kernel
set_option maxRecDepth 20000 in
theorem ggX5_wished_X5_hasWell : GoodIn wsX5_wished wsX5_hasWell := goodIn_r _ [7, 1, 2, 30, 31, 32, 33, 34, 35, 36, 37, 38, 39, 40, 41, 42, 43] (by decide +kernel) (by decide +kernel)
set_option maxRecDepth 20000 in
theorem gX5_wished_X5_hasWell : GoodIn wsX5_wished (wsV RX5 111 RX5 yX5_hasWell wsX5_hasWell) := goodIn_app (goodIn_of _ (by decide +kernel)) ggX5_wished_X5_hasWell
set_option maxRecDepth 20000 in
theorem ggX5_wished_X5_isWish : GoodIn wsX5_wished wsX5_isWish := goodIn_r _ [10] (by decide +kernel) (by decide +kernel)
set_option maxRecDepth 20000 in
theorem gX5_wished_X5_isWish : GoodIn wsX5_wished (va_wsS RX5 124 yX5_isWish wsX5_isWish) := goodIn_app (goodIn_of _ (by decide +kernel)) ggX5_wished_X5_isWish
set_option maxRecDepth 20000 in
theorem ggX5_wished_X4_wishAt : GoodIn wsX5_wished wsX4_wishAt := goodIn_r _ [15, 16, 17, 18, 19, 20, 21, 22, 23, 14, 24, 25, 26, 6, 27, 28, 29, 37, 38, 39, 40, 41, 42, 43] (by decide +kernel) (by decide +kernel)
set_option maxRecDepth 20000 in
theorem gX5_wished_X4_wishAt : GoodIn wsX5_wished (wsV RX5 98 RX4 yX4_wishAt wsX4_wishAt) := goodIn_app (goodIn_of _ (by decide +kernel)) ggX5_wished_X4_wishAt
theorem dX5_wished_0 : decode cX5_wished 0 = .ok (.aload_n 0, 1) := by decide +kernel
theorem dX5_wished_1 : decode cX5_wished 1 = .ok (.invokevirtual 111, 3) := by decide +kernel
theorem dX5_wished_4 : decode cX5_wished 4 = .ok (.ifCond .ne 6, 3) := by decide +kernel
theorem dX5_wished_7 : decode cX5_wished 7 = .ok (.bipush (-3), 2) := by decide +kernel
theorem dX5_wished_9 : decode cX5_wished 9 = .ok (.ireturn, 1) := by decide +kernel
theorem dX5_wished_10 : decode cX5_wished 10 = .ok (.iload_n 1, 1) := by decide +kernel
theorem dX5_wished_11 : decode cX5_wished 11 = .ok (.invokestatic 124, 3) := by decide +kernel
theorem dX5_wished_14 : decode cX5_wished 14 = .ok (.ifCond .ne 6, 3) := by decide +kernel
theorem dX5_wished_17 : decode cX5_wished 17 = .ok (.bipush (-2), 2) := by decide +kernel
theorem dX5_wished_19 : decode cX5_wished 19 = .ok (.ireturn, 1) := by decide +kernel
theorem dX5_wished_20 : decode cX5_wished 20 = .ok (.iconst 0, 1) := by decide +kernel
theorem dX5_wished_21 : decode cX5_wished 21 = .ok (.istore_n 2, 1) := by decide +kernel
theorem dX5_wished_22 : decode cX5_wished 22 = .ok (.iconst 0, 1) := by decide +kernel
theorem dX5_wished_23 : decode cX5_wished 23 = .ok (.istore_n 3, 1) := by decide +kernel
theorem dX5_wished_24 : decode cX5_wished 24 = .ok (.iload_n 3, 1) := by decide +kernel
theorem dX5_wished_25 : decode cX5_wished 25 = .ok (.aload_n 0, 1) := by decide +kernel
theorem dX5_wished_26 : decode cX5_wished 26 = .ok (.getfield 12, 3) := by decide +kernel
theorem dX5_wished_29 : decode cX5_wished 29 = .ok (.getfield 79, 3) := by decide +kernel
theorem dX5_wished_32 : decode cX5_wished 32 = .ok (.if_icmp .ge 27, 3) := by decide +kernel
theorem dX5_wished_35 : decode cX5_wished 35 = .ok (.aload_n 0, 1) := by decide +kernel
theorem dX5_wished_36 : decode cX5_wished 36 = .ok (.getfield 12, 3) := by decide +kernel
theorem dX5_wished_39 : decode cX5_wished 39 = .ok (.iload_n 3, 1) := by decide +kernel
theorem dX5_wished_40 : decode cX5_wished 40 = .ok (.invokevirtual 98, 3) := by decide +kernel
theorem dX5_wished_43 : decode cX5_wished 43 = .ok (.iload_n 1, 1) := by decide +kernel
theorem dX5_wished_44 : decode cX5_wished 44 = .ok (.if_icmp .ne 9, 3) := by decide +kernel
theorem dX5_wished_47 : decode cX5_wished 47 = .ok (.iload_n 2, 1) := by decide +kernel
theorem dX5_wished_48 : decode cX5_wished 48 = .ok (.iconst 1, 1) := by decide +kernel
theorem dX5_wished_49 : decode cX5_wished 49 = .ok (.iload_n 3, 1) := by decide +kernel
theorem dX5_wished_50 : decode cX5_wished 50 = .ok (.ishl, 1) := by decide +kernel
theorem dX5_wished_51 : decode cX5_wished 51 = .ok (.ior, 1) := by decide +kernel
theorem dX5_wished_52 : decode cX5_wished 52 = .ok (.istore_n 2, 1) := by decide +kernel
theorem dX5_wished_53 : decode cX5_wished 53 = .ok (.iinc 3 1, 3) := by decide +kernel
theorem dX5_wished_56 : decode cX5_wished 56 = .ok (.goto (-32), 3) := by decide +kernel
theorem dX5_wished_59 : decode cX5_wished 59 = .ok (.iload_n 2, 1) := by decide +kernel
theorem dX5_wished_60 : decode cX5_wished 60 = .ok (.ireturn, 1) := by decide +kernel
set_option maxRecDepth 20000 in
theorem ggX5_throwIn_X5_isKind : GoodIn wsX5_throwIn wsX5_isKind := goodIn_r _ [6] (by decide +kernel) (by decide +kernel)
set_option maxRecDepth 20000 in
theorem gX5_throwIn_X5_isKind : GoodIn wsX5_throwIn (va_wsS RX5 127 yX5_isKind wsX5_isKind) := goodIn_app (goodIn_of _ (by decide +kernel)) ggX5_throwIn_X5_isKind
set_option maxRecDepth 20000 in
theorem ggX5_throwIn_X5_isBend : GoodIn wsX5_throwIn wsX5_isBend := goodIn_r _ [9] (by decide +kernel) (by decide +kernel)
set_option maxRecDepth 20000 in
theorem gX5_throwIn_X5_isBend : GoodIn wsX5_throwIn (va_wsS RX5 104 yX5_isBend wsX5_isBend) := goodIn_app (goodIn_of _ (by decide +kernel)) ggX5_throwIn_X5_isBend
set_option maxRecDepth 20000 in
theorem ggX5_throwIn_X5_hasWell : GoodIn wsX5_throwIn wsX5_hasWell := goodIn_r _ [13, 1, 2, 38, 39, 40, 41, 42, 43, 44, 45, 46, 47, 48, 49, 50, 51] (by decide +kernel) (by decide +kernel)
set_option maxRecDepth 20000 in
theorem gX5_throwIn_X5_hasWell : GoodIn wsX5_throwIn (wsV RX5 111 RX5 yX5_hasWell wsX5_hasWell) := goodIn_app (goodIn_of _ (by decide +kernel)) ggX5_throwIn_X5_hasWell
set_option maxRecDepth 20000 in
theorem ggX5_throwIn_X4_addTop : GoodIn wsX5_throwIn wsX4_addTop := goodIn_r _ [18, 19, 20, 21, 22, 23, 45, 46, 47, 48, 49, 50, 51] (by decide +kernel) (by decide +kernel)
set_option maxRecDepth 20000 in
theorem gX5_throwIn_X4_addTop : GoodIn wsX5_throwIn (wsV RX5 130 RX4 yX4_addTop wsX4_addTop) := goodIn_app (goodIn_of _ (by decide +kernel)) ggX5_throwIn_X4_addTop
set_option maxRecDepth 20000 in
theorem ggX5_throwIn_X4_wishAt : GoodIn wsX5_throwIn wsX4_wishAt := goodIn_r _ [27, 28, 20, 21, 29, 22, 30, 31, 32, 17, 33, 19, 34, 5, 35, 36, 37, 45, 46, 47, 48, 49, 50, 51] (by decide +kernel) (by decide +kernel)
set_option maxRecDepth 20000 in
theorem gX5_throwIn_X4_wishAt : GoodIn wsX5_throwIn (wsV RX5 98 RX4 yX4_wishAt wsX4_wishAt) := goodIn_app (goodIn_of _ (by decide +kernel)) ggX5_throwIn_X4_wishAt
theorem dX5_throwIn_0 : decode cX5_throwIn 0 = .ok (.iload_n 1, 1) := by decide +kernel
theorem dX5_throwIn_1 : decode cX5_throwIn 1 = .ok (.invokestatic 127, 3) := by decide +kernel
theorem dX5_throwIn_4 : decode cX5_throwIn 4 = .ok (.ifCond .eq 10, 3) := by decide +kernel
theorem dX5_throwIn_7 : decode cX5_throwIn 7 = .ok (.iload_n 2, 1) := by decide +kernel
theorem dX5_throwIn_8 : decode cX5_throwIn 8 = .ok (.invokestatic 104, 3) := by decide +kernel
theorem dX5_throwIn_11 : decode cX5_throwIn 11 = .ok (.ifCond .ne 6, 3) := by decide +kernel
theorem dX5_throwIn_14 : decode cX5_throwIn 14 = .ok (.bipush (-2), 2) := by decide +kernel
theorem dX5_throwIn_16 : decode cX5_throwIn 16 = .ok (.ireturn, 1) := by decide +kernel
theorem dX5_throwIn_17 : decode cX5_throwIn 17 = .ok (.aload_n 0, 1) := by decide +kernel
theorem dX5_throwIn_18 : decode cX5_throwIn 18 = .ok (.invokevirtual 111, 3) := by decide +kernel
theorem dX5_throwIn_21 : decode cX5_throwIn 21 = .ok (.ifCond .ne 6, 3) := by decide +kernel
theorem dX5_throwIn_24 : decode cX5_throwIn 24 = .ok (.bipush (-3), 2) := by decide +kernel
theorem dX5_throwIn_26 : decode cX5_throwIn 26 = .ok (.ireturn, 1) := by decide +kernel
theorem dX5_throwIn_27 : decode cX5_throwIn 27 = .ok (.aload_n 0, 1) := by decide +kernel
theorem dX5_throwIn_28 : decode cX5_throwIn 28 = .ok (.getfield 12, 3) := by decide +kernel
theorem dX5_throwIn_31 : decode cX5_throwIn 31 = .ok (.iload_n 1, 1) := by decide +kernel
theorem dX5_throwIn_32 : decode cX5_throwIn 32 = .ok (.iload_n 2, 1) := by decide +kernel
theorem dX5_throwIn_33 : decode cX5_throwIn 33 = .ok (.invokevirtual 130, 3) := by decide +kernel
theorem dX5_throwIn_36 : decode cX5_throwIn 36 = .ok (.ifCond .ne 6, 3) := by decide +kernel
theorem dX5_throwIn_39 : decode cX5_throwIn 39 = .ok (.bipush (-4), 2) := by decide +kernel
theorem dX5_throwIn_41 : decode cX5_throwIn 41 = .ok (.ireturn, 1) := by decide +kernel
theorem dX5_throwIn_42 : decode cX5_throwIn 42 = .ok (.aload_n 0, 1) := by decide +kernel
theorem dX5_throwIn_43 : decode cX5_throwIn 43 = .ok (.getfield 12, 3) := by decide +kernel
theorem dX5_throwIn_46 : decode cX5_throwIn 46 = .ok (.aload_n 0, 1) := by decide +kernel
theorem dX5_throwIn_47 : decode cX5_throwIn 47 = .ok (.getfield 12, 3) := by decide +kernel
theorem dX5_throwIn_50 : decode cX5_throwIn 50 = .ok (.getfield 79, 3) := by decide +kernel
theorem dX5_throwIn_53 : decode cX5_throwIn 53 = .ok (.iconst 1, 1) := by decide +kernel
theorem dX5_throwIn_54 : decode cX5_throwIn 54 = .ok (.isub, 1) := by decide +kernel
theorem dX5_throwIn_55 : decode cX5_throwIn 55 = .ok (.invokevirtual 98, 3) := by decide +kernel
theorem dX5_throwIn_58 : decode cX5_throwIn 58 = .ok (.ireturn, 1) := by decide +kernel
set_option maxRecDepth 20000 in
theorem ggX5_fish_X4_wishAt : GoodIn wsX5_fish wsX4_wishAt := goodIn_r _ [8, 9, 10, 11, 12, 13, 14, 15, 16, 7, 17, 18, 19, 20, 21, 22, 23, 41, 42, 43, 44, 45, 46, 47] (by decide +kernel) (by decide +kernel)
set_option maxRecDepth 20000 in
theorem gX5_fish_X4_wishAt : GoodIn wsX5_fish (wsV RX5 98 RX4 yX4_wishAt wsX4_wishAt) := goodIn_app (goodIn_of _ (by decide +kernel)) ggX5_fish_X4_wishAt
set_option maxRecDepth 20000 in
theorem ggX5_fish_X4_dropTop : GoodIn wsX5_fish wsX4_dropTop := goodIn_r _ [27, 18, 41, 42, 43, 44, 45, 46, 47] (by decide +kernel) (by decide +kernel)
set_option maxRecDepth 20000 in
theorem gX5_fish_X4_dropTop : GoodIn wsX5_fish (wsV RX5 133 RX4 yX4_dropTop wsX4_dropTop) := goodIn_app (goodIn_of _ (by decide +kernel)) ggX5_fish_X4_dropTop
set_option maxRecDepth 20000 in
theorem ggX5_fish_X2_clear : GoodIn wsX5_fish wsX2_clear := goodIn_r _ [32, 33, 48, 49, 50] (by decide +kernel) (by decide +kernel)
set_option maxRecDepth 20000 in
theorem gX5_fish_X2_clear : GoodIn wsX5_fish (wsV RX5 76 RX2 yX2_clear wsX2_clear) := goodIn_app (goodIn_of _ (by decide +kernel)) ggX5_fish_X2_clear
theorem dX5_fish_0 : decode cX5_fish 0 = .ok (.aload_n 0, 1) := by decide +kernel
theorem dX5_fish_1 : decode cX5_fish 1 = .ok (.getfield 12, 3) := by decide +kernel
theorem dX5_fish_4 : decode cX5_fish 4 = .ok (.aload_n 0, 1) := by decide +kernel
theorem dX5_fish_5 : decode cX5_fish 5 = .ok (.getfield 12, 3) := by decide +kernel
theorem dX5_fish_8 : decode cX5_fish 8 = .ok (.getfield 79, 3) := by decide +kernel
theorem dX5_fish_11 : decode cX5_fish 11 = .ok (.iconst 1, 1) := by decide +kernel
theorem dX5_fish_12 : decode cX5_fish 12 = .ok (.isub, 1) := by decide +kernel
theorem dX5_fish_13 : decode cX5_fish 13 = .ok (.invokevirtual 98, 3) := by decide +kernel
theorem dX5_fish_16 : decode cX5_fish 16 = .ok (.istore_n 1, 1) := by decide +kernel
theorem dX5_fish_17 : decode cX5_fish 17 = .ok (.aload_n 0, 1) := by decide +kernel
theorem dX5_fish_18 : decode cX5_fish 18 = .ok (.getfield 12, 3) := by decide +kernel
theorem dX5_fish_21 : decode cX5_fish 21 = .ok (.invokevirtual 133, 3) := by decide +kernel
theorem dX5_fish_24 : decode cX5_fish 24 = .ok (.ifCond .ne 6, 3) := by decide +kernel
theorem dX5_fish_27 : decode cX5_fish 27 = .ok (.bipush (-3), 2) := by decide +kernel
theorem dX5_fish_29 : decode cX5_fish 29 = .ok (.ireturn, 1) := by decide +kernel
theorem dX5_fish_30 : decode cX5_fish 30 = .ok (.aload_n 0, 1) := by decide +kernel
theorem dX5_fish_31 : decode cX5_fish 31 = .ok (.getfield 21, 3) := by decide +kernel
theorem dX5_fish_34 : decode cX5_fish 34 = .ok (.invokevirtual 76, 3) := by decide +kernel
theorem dX5_fish_37 : decode cX5_fish 37 = .ok (.iload_n 1, 1) := by decide +kernel
theorem dX5_fish_38 : decode cX5_fish 38 = .ok (.ireturn, 1) := by decide +kernel
set_option maxRecDepth 20000 in
theorem ggX5_years_X5_hasWell : GoodIn wsX5_years wsX5_hasWell := goodIn_r _ [7, 1, 8, 9, 10, 11, 12, 13, 14, 15, 16, 17, 18, 19, 20, 21, 22] (by decide +kernel) (by decide +kernel)
set_option maxRecDepth 20000 in
theorem gX5_years_X5_hasWell : GoodIn wsX5_years (wsV RX5 111 RX5 yX5_hasWell wsX5_hasWell) := goodIn_app (goodIn_of _ (by decide +kernel)) ggX5_years_X5_hasWell
theorem dX5_years_0 : decode cX5_years 0 = .ok (.iload_n 1, 1) := by decide +kernel
theorem dX5_years_1 : decode cX5_years 1 = .ok (.iconst 1, 1) := by decide +kernel
theorem dX5_years_2 : decode cX5_years 2 = .ok (.if_icmp .lt 9, 3) := by decide +kernel
theorem dX5_years_5 : decode cX5_years 5 = .ok (.iload_n 1, 1) := by decide +kernel
theorem dX5_years_6 : decode cX5_years 6 = .ok (.bipush 99, 2) := by decide +kernel
theorem dX5_years_8 : decode cX5_years 8 = .ok (.if_icmp .le 6, 3) := by decide +kernel
theorem dX5_years_11 : decode cX5_years 11 = .ok (.bipush (-2), 2) := by decide +kernel
theorem dX5_years_13 : decode cX5_years 13 = .ok (.ireturn, 1) := by decide +kernel
theorem dX5_years_14 : decode cX5_years 14 = .ok (.aload_n 0, 1) := by decide +kernel
theorem dX5_years_15 : decode cX5_years 15 = .ok (.invokevirtual 111, 3) := by decide +kernel
theorem dX5_years_18 : decode cX5_years 18 = .ok (.ifCond .ne 6, 3) := by decide +kernel
theorem dX5_years_21 : decode cX5_years 21 = .ok (.bipush (-3), 2) := by decide +kernel
theorem dX5_years_23 : decode cX5_years 23 = .ok (.ireturn, 1) := by decide +kernel
theorem dX5_years_24 : decode cX5_years 24 = .ok (.aload_n 0, 1) := by decide +kernel
theorem dX5_years_25 : decode cX5_years 25 = .ok (.getfield 12, 3) := by decide +kernel
theorem dX5_years_28 : decode cX5_years 28 = .ok (.dup, 1) := by decide +kernel
theorem dX5_years_29 : decode cX5_years 29 = .ok (.getfield 101, 3) := by decide +kernel
theorem dX5_years_32 : decode cX5_years 32 = .ok (.iload_n 1, 1) := by decide +kernel
theorem dX5_years_33 : decode cX5_years 33 = .ok (.iadd, 1) := by decide +kernel
theorem dX5_years_34 : decode cX5_years 34 = .ok (.putfield 101, 3) := by decide +kernel
theorem dX5_years_37 : decode cX5_years 37 = .ok (.aload_n 0, 1) := by decide +kernel
theorem dX5_years_38 : decode cX5_years 38 = .ok (.getfield 12, 3) := by decide +kernel
theorem dX5_years_41 : decode cX5_years 41 = .ok (.getfield 101, 3) := by decide +kernel
theorem dX5_years_44 : decode cX5_years 44 = .ok (.ireturn, 1) := by decide +kernel
set_option maxRecDepth 20000 in
theorem ggX5_century_X5_isSheet : GoodIn wsX5_century wsX5_isSheet := goodIn_r _ [8] (by decide +kernel) (by decide +kernel)
set_option maxRecDepth 20000 in
theorem gX5_century_X5_isSheet : GoodIn wsX5_century (va_wsS RX5 50 yX5_isSheet wsX5_isSheet) := goodIn_app (goodIn_of _ (by decide +kernel)) ggX5_century_X5_isSheet
set_option maxRecDepth 20000 in
theorem ggX5_century_X5_isLane : GoodIn wsX5_century wsX5_isLane := goodIn_r _ [11] (by decide +kernel) (by decide +kernel)
set_option maxRecDepth 20000 in
theorem gX5_century_X5_isLane : GoodIn wsX5_century (va_wsS RX5 54 yX5_isLane wsX5_isLane) := goodIn_app (goodIn_of _ (by decide +kernel)) ggX5_century_X5_isLane
set_option maxRecDepth 20000 in
theorem ggX5_century_X5_isToldOfCentury : GoodIn wsX5_century wsX5_isToldOfCentury := goodIn_r _ [14] (by decide +kernel) (by decide +kernel)
set_option maxRecDepth 20000 in
theorem gX5_century_X5_isToldOfCentury : GoodIn wsX5_century (va_wsS RX5 136 yX5_isToldOfCentury wsX5_isToldOfCentury) := goodIn_app (goodIn_of _ (by decide +kernel)) ggX5_century_X5_isToldOfCentury
set_option maxRecDepth 20000 in
theorem ggX5_century_X5_hasWell : GoodIn wsX5_century wsX5_hasWell := goodIn_r _ [18, 4, 19, 116, 117, 118, 119, 120, 121, 122, 123, 124, 125, 126, 127, 128, 129] (by decide +kernel) (by decide +kernel)
set_option maxRecDepth 20000 in
theorem gX5_century_X5_hasWell : GoodIn wsX5_century (wsV RX5 111 RX5 yX5_hasWell wsX5_hasWell) := goodIn_app (goodIn_of _ (by decide +kernel)) ggX5_century_X5_hasWell
set_option maxRecDepth 20000 in
theorem ggX5_century_X3_faultOfCells : GoodIn wsX5_century wsX3_faultOfCells := goodIn_r _ [24, 25, 26, 27, 23, 28, 29, 30, 31, 32, 33, 34, 35, 36, 37, 38, 130, 131, 132] (by decide +kernel) (by decide +kernel)
set_option maxRecDepth 20000 in
theorem gX5_century_X3_faultOfCells : GoodIn wsX5_century (wsV RX5 139 RX3 yX3_faultOfCells wsX3_faultOfCells) := goodIn_app (goodIn_of _ (by decide +kernel)) ggX5_century_X3_faultOfCells
set_option maxRecDepth 20000 in
theorem ggX5_century_X5_failed : GoodIn wsX5_century wsX5_failed := goodIn_r _ [42, 1, 116, 117, 118, 119, 120, 121, 122] (by decide +kernel) (by decide +kernel)
set_option maxRecDepth 20000 in
theorem gX5_century_X5_failed : GoodIn wsX5_century (wsV RX5 65 RX5 yX5_failed wsX5_failed) := goodIn_app (goodIn_of _ (by decide +kernel)) ggX5_century_X5_failed
set_option maxRecDepth 20000 in
theorem ggX5_century_X3_at : GoodIn wsX5_century wsX3_at := goodIn_r _ [46, 47, 34, 35, 36, 23, 37, 38, 130, 131, 132] (by decide +kernel) (by decide +kernel)
set_option maxRecDepth 20000 in
theorem gX5_century_X3_at : GoodIn wsX5_century (wsV RX5 143 RX3 yX3_at wsX3_at) := goodIn_app (goodIn_of _ (by decide +kernel)) ggX5_century_X3_at
set_option maxRecDepth 20000 in
theorem ggX5_century_X5_isAct : GoodIn wsX5_century wsX5_isAct := goodIn_r _ [50, 51, 52, 7, 53, 54, 55, 56] (by decide +kernel) (by decide +kernel)
set_option maxRecDepth 20000 in
theorem gX5_century_X5_isAct : GoodIn wsX5_century (va_wsS RX5 146 yX5_isAct wsX5_isAct) := goodIn_app (goodIn_of _ (by decide +kernel)) ggX5_century_X5_isAct
set_option maxRecDepth 20000 in
theorem ggX5_century_X0_play : GoodIn wsX5_century wsX0_play := goodIn_r _ [61, 62, 63, 64, 65, 66, 67, 68, 69, 70, 71, 72, 73, 74, 75, 76, 77, 78, 79, 80, 81, 44, 45, 23, 46, 47, 34, 35, 36, 37, 38, 82, 83, 84, 60, 85, 86, 87, 88, 89, 90, 91, 92, 93, 94, 95, 96, 97, 98, 99, 100, 7, 101, 102, 103, 104, 105, 106, 107, 133, 134, 135, 123, 124, 125, 126, 127, 128, 129, 130, 131, 132] (by decide +kernel) (by decide +kernel)
set_option maxRecDepth 20000 in
theorem gX5_century_X0_play : GoodIn wsX5_century (wsV RX5 149 RX0 yX0_play wsX0_play) := goodIn_app (goodIn_of _ (by decide +kernel)) ggX5_century_X0_play
set_option maxRecDepth 20000 in
theorem ggX5_century_X0_told : GoodIn wsX5_century wsX0_told := goodIn_r _ [111, 63, 62, 87, 64, 86, 112, 113, 114, 60, 115, 92, 93, 94, 68, 95, 78, 70, 75, 79, 76, 96, 97, 98, 99, 77, 100, 7, 101, 102, 103, 133, 134, 135, 123, 124, 125, 126, 127, 128, 129] (by decide +kernel) (by decide +kernel)
set_option maxRecDepth 20000 in
theorem gX5_century_X0_told : GoodIn wsX5_century (wsV RX5 153 RX0 yX0_told wsX0_told) := goodIn_app (goodIn_of _ (by decide +kernel)) ggX5_century_X0_told
theorem dX5_century_0 : decode cX5_century 0 = .ok (.aload_n 0, 1) := by decide +kernel
theorem dX5_century_1 : decode cX5_century 1 = .ok (.iconst 0, 1) := by decide +kernel
theorem dX5_century_2 : decode cX5_century 2 = .ok (.putfield 46, 3) := by decide +kernel
theorem dX5_century_5 : decode cX5_century 5 = .ok (.iload_n 1, 1) := by decide +kernel
theorem dX5_century_6 : decode cX5_century 6 = .ok (.invokestatic 50, 3) := by decide +kernel
theorem dX5_century_9 : decode cX5_century 9 = .ok (.ifCond .ne 5, 3) := by decide +kernel
theorem dX5_century_12 : decode cX5_century 12 = .ok (.iconst (-1), 1) := by decide +kernel
theorem dX5_century_13 : decode cX5_century 13 = .ok (.ireturn, 1) := by decide +kernel
theorem dX5_century_14 : decode cX5_century 14 = .ok (.iload_n 2, 1) := by decide +kernel
theorem dX5_century_15 : decode cX5_century 15 = .ok (.invokestatic 54, 3) := by decide +kernel
theorem dX5_century_18 : decode cX5_century 18 = .ok (.ifCond .eq 23, 3) := by decide +kernel
theorem dX5_century_21 : decode cX5_century 21 = .ok (.iload 4, 2) := by decide +kernel
theorem dX5_century_23 : decode cX5_century 23 = .ok (.ifCond .lt 18, 3) := by decide +kernel
theorem dX5_century_26 : decode cX5_century 26 = .ok (.iload 4, 2) := by decide +kernel
theorem dX5_century_28 : decode cX5_century 28 = .ok (.bipush 20, 2) := by decide +kernel
theorem dX5_century_30 : decode cX5_century 30 = .ok (.if_icmp .gt 11, 3) := by decide +kernel
theorem dX5_century_33 : decode cX5_century 33 = .ok (.iload 5, 2) := by decide +kernel
theorem dX5_century_35 : decode cX5_century 35 = .ok (.invokestatic 136, 3) := by decide +kernel
theorem dX5_century_38 : decode cX5_century 38 = .ok (.ifCond .ne 6, 3) := by decide +kernel
theorem dX5_century_41 : decode cX5_century 41 = .ok (.bipush (-2), 2) := by decide +kernel
theorem dX5_century_43 : decode cX5_century 43 = .ok (.ireturn, 1) := by decide +kernel
theorem dX5_century_44 : decode cX5_century 44 = .ok (.aload_n 0, 1) := by decide +kernel
theorem dX5_century_45 : decode cX5_century 45 = .ok (.invokevirtual 111, 3) := by decide +kernel
theorem dX5_century_48 : decode cX5_century 48 = .ok (.ifCond .ne 6, 3) := by decide +kernel
theorem dX5_century_51 : decode cX5_century 51 = .ok (.bipush (-3), 2) := by decide +kernel
theorem dX5_century_53 : decode cX5_century 53 = .ok (.ireturn, 1) := by decide +kernel
theorem dX5_century_54 : decode cX5_century 54 = .ok (.aload_n 0, 1) := by decide +kernel
theorem dX5_century_55 : decode cX5_century 55 = .ok (.getfield 41, 3) := by decide +kernel
theorem dX5_century_58 : decode cX5_century 58 = .ok (.iload_n 1, 1) := by decide +kernel
theorem dX5_century_59 : decode cX5_century 59 = .ok (.aaload, 1) := by decide +kernel
theorem dX5_century_60 : decode cX5_century 60 = .ok (.astore 6, 2) := by decide +kernel
theorem dX5_century_62 : decode cX5_century 62 = .ok (.aload 6, 2) := by decide +kernel
theorem dX5_century_64 : decode cX5_century 64 = .ok (.iload_n 2, 1) := by decide +kernel
theorem dX5_century_65 : decode cX5_century 65 = .ok (.iload_n 3, 1) := by decide +kernel
theorem dX5_century_66 : decode cX5_century 66 = .ok (.iconst 2, 1) := by decide +kernel
theorem dX5_century_67 : decode cX5_century 67 = .ok (.iload 4, 2) := by decide +kernel
theorem dX5_century_69 : decode cX5_century 69 = .ok (.imul, 1) := by decide +kernel
theorem dX5_century_70 : decode cX5_century 70 = .ok (.invokevirtual 139, 3) := by decide +kernel
theorem dX5_century_73 : decode cX5_century 73 = .ok (.istore 7, 2) := by decide +kernel
theorem dX5_century_75 : decode cX5_century 75 = .ok (.iload 7, 2) := by decide +kernel
theorem dX5_century_77 : decode cX5_century 77 = .ok (.ifCond .eq 10, 3) := by decide +kernel
theorem dX5_century_80 : decode cX5_century 80 = .ok (.aload_n 0, 1) := by decide +kernel
theorem dX5_century_81 : decode cX5_century 81 = .ok (.iload 7, 2) := by decide +kernel
theorem dX5_century_83 : decode cX5_century 83 = .ok (.invokevirtual 65, 3) := by decide +kernel
theorem dX5_century_86 : decode cX5_century 86 = .ok (.ireturn, 1) := by decide +kernel
theorem dX5_century_87 : decode cX5_century 87 = .ok (.iconst 0, 1) := by decide +kernel
theorem dX5_century_88 : decode cX5_century 88 = .ok (.istore 8, 2) := by decide +kernel
theorem dX5_century_90 : decode cX5_century 90 = .ok (.iload 8, 2) := by decide +kernel
theorem dX5_century_92 : decode cX5_century 92 = .ok (.iload 4, 2) := by decide +kernel
theorem dX5_century_94 : decode cX5_century 94 = .ok (.if_icmp .ge 42, 3) := by decide +kernel
theorem dX5_century_97 : decode cX5_century 97 = .ok (.aload 6, 2) := by decide +kernel
theorem dX5_century_99 : decode cX5_century 99 = .ok (.iload_n 3, 1) := by decide +kernel
theorem dX5_century_100 : decode cX5_century 100 = .ok (.iconst 2, 1) := by decide +kernel
theorem dX5_century_101 : decode cX5_century 101 = .ok (.iload 8, 2) := by decide +kernel
theorem dX5_century_103 : decode cX5_century 103 = .ok (.imul, 1) := by decide +kernel
theorem dX5_century_104 : decode cX5_century 104 = .ok (.iadd, 1) := by decide +kernel
theorem dX5_century_105 : decode cX5_century 105 = .ok (.invokevirtual 143, 3) := by decide +kernel
theorem dX5_century_108 : decode cX5_century 108 = .ok (.aload 6, 2) := by decide +kernel
theorem dX5_century_110 : decode cX5_century 110 = .ok (.iload_n 3, 1) := by decide +kernel
theorem dX5_century_111 : decode cX5_century 111 = .ok (.iconst 2, 1) := by decide +kernel
theorem dX5_century_112 : decode cX5_century 112 = .ok (.iload 8, 2) := by decide +kernel
theorem dX5_century_114 : decode cX5_century 114 = .ok (.imul, 1) := by decide +kernel
theorem dX5_century_115 : decode cX5_century 115 = .ok (.iadd, 1) := by decide +kernel
theorem dX5_century_116 : decode cX5_century 116 = .ok (.iconst 1, 1) := by decide +kernel
theorem dX5_century_117 : decode cX5_century 117 = .ok (.iadd, 1) := by decide +kernel
theorem dX5_century_118 : decode cX5_century 118 = .ok (.invokevirtual 143, 3) := by decide +kernel
theorem dX5_century_121 : decode cX5_century 121 = .ok (.invokestatic 146, 3) := by decide +kernel
theorem dX5_century_124 : decode cX5_century 124 = .ok (.ifCond .ne 6, 3) := by decide +kernel
theorem dX5_century_127 : decode cX5_century 127 = .ok (.bipush (-2), 2) := by decide +kernel
theorem dX5_century_129 : decode cX5_century 129 = .ok (.ireturn, 1) := by decide +kernel
theorem dX5_century_130 : decode cX5_century 130 = .ok (.iinc 8 1, 3) := by decide +kernel
theorem dX5_century_133 : decode cX5_century 133 = .ok (.goto (-43), 3) := by decide +kernel
theorem dX5_century_136 : decode cX5_century 136 = .ok (.aload_n 0, 1) := by decide +kernel
theorem dX5_century_137 : decode cX5_century 137 = .ok (.getfield 28, 3) := by decide +kernel
theorem dX5_century_140 : decode cX5_century 140 = .ok (.aload_n 0, 1) := by decide +kernel
theorem dX5_century_141 : decode cX5_century 141 = .ok (.getfield 12, 3) := by decide +kernel
theorem dX5_century_144 : decode cX5_century 144 = .ok (.aload 6, 2) := by decide +kernel
theorem dX5_century_146 : decode cX5_century 146 = .ok (.iload_n 3, 1) := by decide +kernel
theorem dX5_century_147 : decode cX5_century 147 = .ok (.iload 4, 2) := by decide +kernel
theorem dX5_century_149 : decode cX5_century 149 = .ok (.invokevirtual 149, 3) := by decide +kernel
theorem dX5_century_152 : decode cX5_century 152 = .ok (.aload_n 0, 1) := by decide +kernel
theorem dX5_century_153 : decode cX5_century 153 = .ok (.getfield 28, 3) := by decide +kernel
theorem dX5_century_156 : decode cX5_century 156 = .ok (.iload 5, 2) := by decide +kernel
theorem dX5_century_158 : decode cX5_century 158 = .ok (.invokevirtual 153, 3) := by decide +kernel
theorem dX5_century_161 : decode cX5_century 161 = .ok (.ireturn, 1) := by decide +kernel
set_option maxRecDepth 20000 in
theorem ggX5_quiet_X5_hasWell : GoodIn wsX5_quiet wsX5_hasWell := goodIn_r _ [8, 1, 2, 20, 21, 22, 23, 24, 25, 26, 27, 28, 29, 30, 31, 32, 33] (by decide +kernel) (by decide +kernel)
set_option maxRecDepth 20000 in
theorem gX5_quiet_X5_hasWell : GoodIn wsX5_quiet (wsV RX5 111 RX5 yX5_hasWell wsX5_hasWell) := goodIn_app (goodIn_of _ (by decide +kernel)) ggX5_quiet_X5_hasWell
set_option maxRecDepth 20000 in
theorem ggX5_quiet_X4_yearAt : GoodIn wsX5_quiet wsX4_yearAt := goodIn_r _ [13, 14, 15, 16, 17, 12, 18, 19, 27, 28, 29, 30, 31, 32, 33] (by decide +kernel) (by decide +kernel)
set_option maxRecDepth 20000 in
theorem gX5_quiet_X4_yearAt : GoodIn wsX5_quiet (wsV RX5 91 RX4 yX4_yearAt wsX4_yearAt) := goodIn_app (goodIn_of _ (by decide +kernel)) ggX5_quiet_X4_yearAt
theorem dX5_quiet_0 : decode cX5_quiet 0 = .ok (.aload_n 0, 1) := by decide +kernel
theorem dX5_quiet_1 : decode cX5_quiet 1 = .ok (.invokevirtual 111, 3) := by decide +kernel
theorem dX5_quiet_4 : decode cX5_quiet 4 = .ok (.ifCond .ne 6, 3) := by decide +kernel
theorem dX5_quiet_7 : decode cX5_quiet 7 = .ok (.bipush (-3), 2) := by decide +kernel
theorem dX5_quiet_9 : decode cX5_quiet 9 = .ok (.ireturn, 1) := by decide +kernel
theorem dX5_quiet_10 : decode cX5_quiet 10 = .ok (.iload_n 1, 1) := by decide +kernel
theorem dX5_quiet_11 : decode cX5_quiet 11 = .ok (.ifCond .eq 11, 3) := by decide +kernel
theorem dX5_quiet_14 : decode cX5_quiet 14 = .ok (.iload_n 1, 1) := by decide +kernel
theorem dX5_quiet_15 : decode cX5_quiet 15 = .ok (.iconst 1, 1) := by decide +kernel
theorem dX5_quiet_16 : decode cX5_quiet 16 = .ok (.if_icmp .eq 6, 3) := by decide +kernel
theorem dX5_quiet_19 : decode cX5_quiet 19 = .ok (.bipush (-2), 2) := by decide +kernel
theorem dX5_quiet_21 : decode cX5_quiet 21 = .ok (.ireturn, 1) := by decide +kernel
theorem dX5_quiet_22 : decode cX5_quiet 22 = .ok (.iconst (-1), 1) := by decide +kernel
theorem dX5_quiet_23 : decode cX5_quiet 23 = .ok (.istore_n 2, 1) := by decide +kernel
theorem dX5_quiet_24 : decode cX5_quiet 24 = .ok (.iconst 0, 1) := by decide +kernel
theorem dX5_quiet_25 : decode cX5_quiet 25 = .ok (.istore_n 3, 1) := by decide +kernel
theorem dX5_quiet_26 : decode cX5_quiet 26 = .ok (.iconst 0, 1) := by decide +kernel
theorem dX5_quiet_27 : decode cX5_quiet 27 = .ok (.istore 4, 2) := by decide +kernel
theorem dX5_quiet_29 : decode cX5_quiet 29 = .ok (.iconst 0, 1) := by decide +kernel
theorem dX5_quiet_30 : decode cX5_quiet 30 = .ok (.istore 5, 2) := by decide +kernel
theorem dX5_quiet_32 : decode cX5_quiet 32 = .ok (.iload 5, 2) := by decide +kernel
theorem dX5_quiet_34 : decode cX5_quiet 34 = .ok (.aload_n 0, 1) := by decide +kernel
theorem dX5_quiet_35 : decode cX5_quiet 35 = .ok (.getfield 12, 3) := by decide +kernel
theorem dX5_quiet_38 : decode cX5_quiet 38 = .ok (.getfield 79, 3) := by decide +kernel
theorem dX5_quiet_41 : decode cX5_quiet 41 = .ok (.if_icmp .gt 64, 3) := by decide +kernel
theorem dX5_quiet_44 : decode cX5_quiet 44 = .ok (.iload 5, 2) := by decide +kernel
theorem dX5_quiet_46 : decode cX5_quiet 46 = .ok (.aload_n 0, 1) := by decide +kernel
theorem dX5_quiet_47 : decode cX5_quiet 47 = .ok (.getfield 12, 3) := by decide +kernel
theorem dX5_quiet_50 : decode cX5_quiet 50 = .ok (.getfield 79, 3) := by decide +kernel
theorem dX5_quiet_53 : decode cX5_quiet 53 = .ok (.if_icmp .ge 15, 3) := by decide +kernel
theorem dX5_quiet_56 : decode cX5_quiet 56 = .ok (.aload_n 0, 1) := by decide +kernel
theorem dX5_quiet_57 : decode cX5_quiet 57 = .ok (.getfield 12, 3) := by decide +kernel
theorem dX5_quiet_60 : decode cX5_quiet 60 = .ok (.iload 5, 2) := by decide +kernel
theorem dX5_quiet_62 : decode cX5_quiet 62 = .ok (.invokevirtual 91, 3) := by decide +kernel
theorem dX5_quiet_65 : decode cX5_quiet 65 = .ok (.goto 10, 3) := by decide +kernel
theorem dX5_quiet_68 : decode cX5_quiet 68 = .ok (.aload_n 0, 1) := by decide +kernel
theorem dX5_quiet_69 : decode cX5_quiet 69 = .ok (.getfield 12, 3) := by decide +kernel
theorem dX5_quiet_72 : decode cX5_quiet 72 = .ok (.getfield 101, 3) := by decide +kernel
theorem dX5_quiet_75 : decode cX5_quiet 75 = .ok (.istore 6, 2) := by decide +kernel
theorem dX5_quiet_77 : decode cX5_quiet 77 = .ok (.iload 6, 2) := by decide +kernel
theorem dX5_quiet_79 : decode cX5_quiet 79 = .ok (.iload 4, 2) := by decide +kernel
theorem dX5_quiet_81 : decode cX5_quiet 81 = .ok (.isub, 1) := by decide +kernel
theorem dX5_quiet_82 : decode cX5_quiet 82 = .ok (.iload_n 2, 1) := by decide +kernel
theorem dX5_quiet_83 : decode cX5_quiet 83 = .ok (.if_icmp .le 12, 3) := by decide +kernel
theorem dX5_quiet_86 : decode cX5_quiet 86 = .ok (.iload 6, 2) := by decide +kernel
theorem dX5_quiet_88 : decode cX5_quiet 88 = .ok (.iload 4, 2) := by decide +kernel
theorem dX5_quiet_90 : decode cX5_quiet 90 = .ok (.isub, 1) := by decide +kernel
theorem dX5_quiet_91 : decode cX5_quiet 91 = .ok (.istore_n 2, 1) := by decide +kernel
theorem dX5_quiet_92 : decode cX5_quiet 92 = .ok (.iload 4, 2) := by decide +kernel
theorem dX5_quiet_94 : decode cX5_quiet 94 = .ok (.istore_n 3, 1) := by decide +kernel
theorem dX5_quiet_95 : decode cX5_quiet 95 = .ok (.iload 6, 2) := by decide +kernel
theorem dX5_quiet_97 : decode cX5_quiet 97 = .ok (.istore 4, 2) := by decide +kernel
theorem dX5_quiet_99 : decode cX5_quiet 99 = .ok (.iinc 5 1, 3) := by decide +kernel
theorem dX5_quiet_102 : decode cX5_quiet 102 = .ok (.goto (-70), 3) := by decide +kernel
theorem dX5_quiet_105 : decode cX5_quiet 105 = .ok (.iload_n 1, 1) := by decide +kernel
theorem dX5_quiet_106 : decode cX5_quiet 106 = .ok (.ifCond .ne 7, 3) := by decide +kernel
theorem dX5_quiet_109 : decode cX5_quiet 109 = .ok (.iload_n 2, 1) := by decide +kernel
theorem dX5_quiet_110 : decode cX5_quiet 110 = .ok (.goto 4, 3) := by decide +kernel
theorem dX5_quiet_113 : decode cX5_quiet 113 = .ok (.iload_n 3, 1) := by decide +kernel
theorem dX5_quiet_114 : decode cX5_quiet 114 = .ok (.ireturn, 1) := by decide +kernel
set_option maxRecDepth 20000 in
theorem ggX5_run_X5_hasWell : GoodIn wsX5_run wsX5_hasWell := goodIn_r _ [7, 1, 2, 27, 28, 29, 30, 31, 32, 33, 34, 35, 36, 37, 38, 39, 40] (by decide +kernel) (by decide +kernel)
set_option maxRecDepth 20000 in
theorem gX5_run_X5_hasWell : GoodIn wsX5_run (wsV RX5 111 RX5 yX5_hasWell wsX5_hasWell) := goodIn_app (goodIn_of _ (by decide +kernel)) ggX5_run_X5_hasWell
set_option maxRecDepth 20000 in
theorem ggX5_run_X4_wishAt : GoodIn wsX5_run wsX4_wishAt := goodIn_r _ [12, 13, 14, 15, 16, 17, 18, 19, 20, 11, 21, 22, 23, 6, 24, 25, 26, 34, 35, 36, 37, 38, 39, 40] (by decide +kernel) (by decide +kernel)
set_option maxRecDepth 20000 in
theorem gX5_run_X4_wishAt : GoodIn wsX5_run (wsV RX5 98 RX4 yX4_wishAt wsX4_wishAt) := goodIn_app (goodIn_of _ (by decide +kernel)) ggX5_run_X4_wishAt
theorem dX5_run_0 : decode cX5_run 0 = .ok (.aload_n 0, 1) := by decide +kernel
theorem dX5_run_1 : decode cX5_run 1 = .ok (.invokevirtual 111, 3) := by decide +kernel
theorem dX5_run_4 : decode cX5_run 4 = .ok (.ifCond .ne 6, 3) := by decide +kernel
theorem dX5_run_7 : decode cX5_run 7 = .ok (.bipush (-3), 2) := by decide +kernel
theorem dX5_run_9 : decode cX5_run 9 = .ok (.ireturn, 1) := by decide +kernel
theorem dX5_run_10 : decode cX5_run 10 = .ok (.iload_n 1, 1) := by decide +kernel
theorem dX5_run_11 : decode cX5_run 11 = .ok (.ifCond .eq 11, 3) := by decide +kernel
theorem dX5_run_14 : decode cX5_run 14 = .ok (.iload_n 1, 1) := by decide +kernel
theorem dX5_run_15 : decode cX5_run 15 = .ok (.iconst 1, 1) := by decide +kernel
theorem dX5_run_16 : decode cX5_run 16 = .ok (.if_icmp .eq 6, 3) := by decide +kernel
theorem dX5_run_19 : decode cX5_run 19 = .ok (.bipush (-2), 2) := by decide +kernel
theorem dX5_run_21 : decode cX5_run 21 = .ok (.ireturn, 1) := by decide +kernel
theorem dX5_run_22 : decode cX5_run 22 = .ok (.iconst 0, 1) := by decide +kernel
theorem dX5_run_23 : decode cX5_run 23 = .ok (.istore_n 2, 1) := by decide +kernel
theorem dX5_run_24 : decode cX5_run 24 = .ok (.iconst 0, 1) := by decide +kernel
theorem dX5_run_25 : decode cX5_run 25 = .ok (.istore_n 3, 1) := by decide +kernel
theorem dX5_run_26 : decode cX5_run 26 = .ok (.iconst 0, 1) := by decide +kernel
theorem dX5_run_27 : decode cX5_run 27 = .ok (.istore 4, 2) := by decide +kernel
theorem dX5_run_29 : decode cX5_run 29 = .ok (.iconst 0, 1) := by decide +kernel
theorem dX5_run_30 : decode cX5_run 30 = .ok (.istore 5, 2) := by decide +kernel
theorem dX5_run_32 : decode cX5_run 32 = .ok (.iload 5, 2) := by decide +kernel
theorem dX5_run_34 : decode cX5_run 34 = .ok (.aload_n 0, 1) := by decide +kernel
theorem dX5_run_35 : decode cX5_run 35 = .ok (.getfield 12, 3) := by decide +kernel
theorem dX5_run_38 : decode cX5_run 38 = .ok (.getfield 79, 3) := by decide +kernel
theorem dX5_run_41 : decode cX5_run 41 = .ok (.if_icmp .ge 56, 3) := by decide +kernel
theorem dX5_run_44 : decode cX5_run 44 = .ok (.aload_n 0, 1) := by decide +kernel
theorem dX5_run_45 : decode cX5_run 45 = .ok (.getfield 12, 3) := by decide +kernel
theorem dX5_run_48 : decode cX5_run 48 = .ok (.iload 5, 2) := by decide +kernel
theorem dX5_run_50 : decode cX5_run 50 = .ok (.invokevirtual 98, 3) := by decide +kernel
theorem dX5_run_53 : decode cX5_run 53 = .ok (.aload_n 0, 1) := by decide +kernel
theorem dX5_run_54 : decode cX5_run 54 = .ok (.getfield 12, 3) := by decide +kernel
theorem dX5_run_57 : decode cX5_run 57 = .ok (.iload 4, 2) := by decide +kernel
theorem dX5_run_59 : decode cX5_run 59 = .ok (.invokevirtual 98, 3) := by decide +kernel
theorem dX5_run_62 : decode cX5_run 62 = .ok (.if_icmp .eq 7, 3) := by decide +kernel
theorem dX5_run_65 : decode cX5_run 65 = .ok (.iload 5, 2) := by decide +kernel
theorem dX5_run_67 : decode cX5_run 67 = .ok (.istore 4, 2) := by decide +kernel
theorem dX5_run_69 : decode cX5_run 69 = .ok (.iload 5, 2) := by decide +kernel
theorem dX5_run_71 : decode cX5_run 71 = .ok (.iload 4, 2) := by decide +kernel
theorem dX5_run_73 : decode cX5_run 73 = .ok (.isub, 1) := by decide +kernel
theorem dX5_run_74 : decode cX5_run 74 = .ok (.iconst 1, 1) := by decide +kernel
theorem dX5_run_75 : decode cX5_run 75 = .ok (.iadd, 1) := by decide +kernel
theorem dX5_run_76 : decode cX5_run 76 = .ok (.iload_n 2, 1) := by decide +kernel
theorem dX5_run_77 : decode cX5_run 77 = .ok (.if_icmp .le 14, 3) := by decide +kernel
theorem dX5_run_80 : decode cX5_run 80 = .ok (.iload 5, 2) := by decide +kernel
theorem dX5_run_82 : decode cX5_run 82 = .ok (.iload 4, 2) := by decide +kernel
theorem dX5_run_84 : decode cX5_run 84 = .ok (.isub, 1) := by decide +kernel
theorem dX5_run_85 : decode cX5_run 85 = .ok (.iconst 1, 1) := by decide +kernel
theorem dX5_run_86 : decode cX5_run 86 = .ok (.iadd, 1) := by decide +kernel
theorem dX5_run_87 : decode cX5_run 87 = .ok (.istore_n 2, 1) := by decide +kernel
theorem dX5_run_88 : decode cX5_run 88 = .ok (.iload 4, 2) := by decide +kernel
theorem dX5_run_90 : decode cX5_run 90 = .ok (.istore_n 3, 1) := by decide +kernel
theorem dX5_run_91 : decode cX5_run 91 = .ok (.iinc 5 1, 3) := by decide +kernel
theorem dX5_run_94 : decode cX5_run 94 = .ok (.goto (-62), 3) := by decide +kernel
theorem dX5_run_97 : decode cX5_run 97 = .ok (.iload_n 1, 1) := by decide +kernel
theorem dX5_run_98 : decode cX5_run 98 = .ok (.ifCond .ne 7, 3) := by decide +kernel
theorem dX5_run_101 : decode cX5_run 101 = .ok (.iload_n 2, 1) := by decide +kernel
theorem dX5_run_102 : decode cX5_run 102 = .ok (.goto 4, 3) := by decide +kernel
theorem dX5_run_105 : decode cX5_run 105 = .ok (.iload_n 3, 1) := by decide +kernel
theorem dX5_run_106 : decode cX5_run 106 = .ok (.ireturn, 1) := by decide +kernel
set_option maxRecDepth 20000 in
theorem ggX5_shape_X5_hasWell : GoodIn wsX5_shape wsX5_hasWell := goodIn_r _ [6, 1, 7, 26, 27, 28, 29, 30, 31, 32, 33, 34, 35, 36, 37, 38, 39] (by decide +kernel) (by decide +kernel)
set_option maxRecDepth 20000 in
theorem gX5_shape_X5_hasWell : GoodIn wsX5_shape (wsV RX5 111 RX5 yX5_hasWell wsX5_hasWell) := goodIn_app (goodIn_of _ (by decide +kernel)) ggX5_shape_X5_hasWell
set_option maxRecDepth 20000 in
theorem ggX5_shape_X5_isKind : GoodIn wsX5_shape wsX5_isKind := goodIn_r _ [10] (by decide +kernel) (by decide +kernel)
set_option maxRecDepth 20000 in
theorem gX5_shape_X5_isKind : GoodIn wsX5_shape (va_wsS RX5 127 yX5_isKind wsX5_isKind) := goodIn_app (goodIn_of _ (by decide +kernel)) ggX5_shape_X5_isKind
set_option maxRecDepth 20000 in
theorem ggX5_shape_X5_isWish : GoodIn wsX5_shape wsX5_isWish := goodIn_r _ [13] (by decide +kernel) (by decide +kernel)
set_option maxRecDepth 20000 in
theorem gX5_shape_X5_isWish : GoodIn wsX5_shape (va_wsS RX5 124 yX5_isWish wsX5_isWish) := goodIn_app (goodIn_of _ (by decide +kernel)) ggX5_shape_X5_isWish
set_option maxRecDepth 20000 in
theorem ggX5_shape_X4_wishNow : GoodIn wsX5_shape wsX4_wishNow := goodIn_r _ [18, 19, 20, 21, 22, 5, 23, 24, 25, 33, 34, 35, 36, 37, 38, 39] (by decide +kernel) (by decide +kernel)
set_option maxRecDepth 20000 in
theorem gX5_shape_X4_wishNow : GoodIn wsX5_shape (wsV RX5 156 RX4 yX4_wishNow wsX4_wishNow) := goodIn_app (goodIn_of _ (by decide +kernel)) ggX5_shape_X4_wishNow
theorem dX5_shape_0 : decode cX5_shape 0 = .ok (.aload_n 0, 1) := by decide +kernel
theorem dX5_shape_1 : decode cX5_shape 1 = .ok (.invokevirtual 111, 3) := by decide +kernel
theorem dX5_shape_4 : decode cX5_shape 4 = .ok (.ifCond .ne 6, 3) := by decide +kernel
theorem dX5_shape_7 : decode cX5_shape 7 = .ok (.bipush (-3), 2) := by decide +kernel
theorem dX5_shape_9 : decode cX5_shape 9 = .ok (.ireturn, 1) := by decide +kernel
theorem dX5_shape_10 : decode cX5_shape 10 = .ok (.iload_n 1, 1) := by decide +kernel
theorem dX5_shape_11 : decode cX5_shape 11 = .ok (.invokestatic 127, 3) := by decide +kernel
theorem dX5_shape_14 : decode cX5_shape 14 = .ok (.ifCond .eq 10, 3) := by decide +kernel
theorem dX5_shape_17 : decode cX5_shape 17 = .ok (.iload_n 2, 1) := by decide +kernel
theorem dX5_shape_18 : decode cX5_shape 18 = .ok (.invokestatic 124, 3) := by decide +kernel
theorem dX5_shape_21 : decode cX5_shape 21 = .ok (.ifCond .ne 6, 3) := by decide +kernel
theorem dX5_shape_24 : decode cX5_shape 24 = .ok (.bipush (-2), 2) := by decide +kernel
theorem dX5_shape_26 : decode cX5_shape 26 = .ok (.ireturn, 1) := by decide +kernel
theorem dX5_shape_27 : decode cX5_shape 27 = .ok (.iconst 0, 1) := by decide +kernel
theorem dX5_shape_28 : decode cX5_shape 28 = .ok (.istore_n 3, 1) := by decide +kernel
theorem dX5_shape_29 : decode cX5_shape 29 = .ok (.iload_n 3, 1) := by decide +kernel
theorem dX5_shape_30 : decode cX5_shape 30 = .ok (.bipush 10, 2) := by decide +kernel
theorem dX5_shape_32 : decode cX5_shape 32 = .ok (.if_icmp .ge 24, 3) := by decide +kernel
theorem dX5_shape_35 : decode cX5_shape 35 = .ok (.aload_n 0, 1) := by decide +kernel
theorem dX5_shape_36 : decode cX5_shape 36 = .ok (.getfield 12, 3) := by decide +kernel
theorem dX5_shape_39 : decode cX5_shape 39 = .ok (.iload_n 1, 1) := by decide +kernel
theorem dX5_shape_40 : decode cX5_shape 40 = .ok (.iload_n 3, 1) := by decide +kernel
theorem dX5_shape_41 : decode cX5_shape 41 = .ok (.invokevirtual 156, 3) := by decide +kernel
theorem dX5_shape_44 : decode cX5_shape 44 = .ok (.iload_n 2, 1) := by decide +kernel
theorem dX5_shape_45 : decode cX5_shape 45 = .ok (.if_icmp .ne 5, 3) := by decide +kernel
theorem dX5_shape_48 : decode cX5_shape 48 = .ok (.iload_n 3, 1) := by decide +kernel
theorem dX5_shape_49 : decode cX5_shape 49 = .ok (.ireturn, 1) := by decide +kernel
theorem dX5_shape_50 : decode cX5_shape 50 = .ok (.iinc 3 1, 3) := by decide +kernel
theorem dX5_shape_53 : decode cX5_shape 53 = .ok (.goto (-24), 3) := by decide +kernel
theorem dX5_shape_56 : decode cX5_shape 56 = .ok (.bipush (-9), 2) := by decide +kernel
theorem dX5_shape_58 : decode cX5_shape 58 = .ok (.ireturn, 1) := by decide +kernel
set_option maxRecDepth 20000 in
theorem ggX5_layers_X5_isSheet : GoodIn wsX5_layers wsX5_isSheet := goodIn_r _ [10] (by decide +kernel) (by decide +kernel)
set_option maxRecDepth 20000 in
theorem gX5_layers_X5_isSheet : GoodIn wsX5_layers (va_wsS RX5 50 yX5_isSheet wsX5_isSheet) := goodIn_app (goodIn_of _ (by decide +kernel)) ggX5_layers_X5_isSheet
set_option maxRecDepth 20000 in
theorem ggX5_layers_X5_isLane : GoodIn wsX5_layers wsX5_isLane := goodIn_r _ [13] (by decide +kernel) (by decide +kernel)
set_option maxRecDepth 20000 in
theorem gX5_layers_X5_isLane : GoodIn wsX5_layers (va_wsS RX5 54 yX5_isLane wsX5_isLane) := goodIn_app (goodIn_of _ (by decide +kernel)) ggX5_layers_X5_isLane
set_option maxRecDepth 20000 in
theorem ggX5_layers_X5_hasWell : GoodIn wsX5_layers wsX5_hasWell := goodIn_r _ [17, 3, 4, 102, 103, 104, 105, 106, 107, 108, 109, 110, 111, 112, 113, 114, 115] (by decide +kernel) (by decide +kernel)
set_option maxRecDepth 20000 in
theorem gX5_layers_X5_hasWell : GoodIn wsX5_layers (wsV RX5 111 RX5 yX5_hasWell wsX5_hasWell) := goodIn_app (goodIn_of _ (by decide +kernel)) ggX5_layers_X5_hasWell
set_option maxRecDepth 20000 in
theorem ggX5_layers_X3_faultOfCells : GoodIn wsX5_layers wsX3_faultOfCells := goodIn_r _ [22, 23, 24, 25, 21, 26, 27, 28, 29, 30, 31, 32, 33, 34, 35, 36, 121, 122, 123] (by decide +kernel) (by decide +kernel)
set_option maxRecDepth 20000 in
theorem gX5_layers_X3_faultOfCells : GoodIn wsX5_layers (wsV RX5 139 RX3 yX3_faultOfCells wsX3_faultOfCells) := goodIn_app (goodIn_of _ (by decide +kernel)) ggX5_layers_X3_faultOfCells
set_option maxRecDepth 20000 in
theorem ggX5_layers_X5_failed : GoodIn wsX5_layers wsX5_failed := goodIn_r _ [40, 1, 102, 103, 104, 105, 106, 107, 108] (by decide +kernel) (by decide +kernel)
set_option maxRecDepth 20000 in
theorem gX5_layers_X5_failed : GoodIn wsX5_layers (wsV RX5 65 RX5 yX5_failed wsX5_failed) := goodIn_app (goodIn_of _ (by decide +kernel)) ggX5_layers_X5_failed
set_option maxRecDepth 20000 in
theorem ggX5_layers_X3_at : GoodIn wsX5_layers wsX3_at := goodIn_r _ [44, 45, 32, 33, 34, 21, 35, 36, 121, 122, 123] (by decide +kernel) (by decide +kernel)
set_option maxRecDepth 20000 in
theorem gX5_layers_X3_at : GoodIn wsX5_layers (wsV RX5 143 RX3 yX3_at wsX3_at) := goodIn_app (goodIn_of _ (by decide +kernel)) ggX5_layers_X3_at
set_option maxRecDepth 20000 in
theorem ggX5_layers_X5_isWish : GoodIn wsX5_layers wsX5_isWish := goodIn_r _ [48] (by decide +kernel) (by decide +kernel)
set_option maxRecDepth 20000 in
theorem gX5_layers_X5_isWish : GoodIn wsX5_layers (va_wsS RX5 124 yX5_isWish wsX5_isWish) := goodIn_app (goodIn_of _ (by decide +kernel)) ggX5_layers_X5_isWish
set_option maxRecDepth 20000 in
theorem ggX5_layers_X1_ask : GoodIn wsX5_layers wsX1_ask := goodIn_r _ [53, 54, 55, 56, 57, 58, 59, 60, 61, 62, 63, 64, 65, 66, 42, 43, 21, 44, 45, 32, 33, 34, 35, 36, 67, 68, 69, 70, 71, 72, 73, 74, 75, 76, 77, 78, 79, 9, 80, 81, 82, 83, 84, 85, 86, 87, 88, 89, 90, 91, 92, 52, 93, 109, 110, 111, 112, 113, 114, 115, 116, 117, 118, 119, 120, 121, 122, 123] (by decide +kernel) (by decide +kernel)
set_option maxRecDepth 20000 in
theorem gX5_layers_X1_ask : GoodIn wsX5_layers (wsV RX5 159 RX1 yX1_ask wsX1_ask) := goodIn_app (goodIn_of _ (by decide +kernel)) ggX5_layers_X1_ask
set_option maxRecDepth 20000 in
theorem ggX5_layers_X1_firstAt : GoodIn wsX5_layers wsX1_firstAt := goodIn_r _ [97, 65, 59, 63, 98, 99, 100, 52, 101, 61, 60, 116, 117, 118, 119, 120] (by decide +kernel) (by decide +kernel)
set_option maxRecDepth 20000 in
theorem gX5_layers_X1_firstAt : GoodIn wsX5_layers (wsV RX5 166 RX1 yX1_firstAt wsX1_firstAt) := goodIn_app (goodIn_of _ (by decide +kernel)) ggX5_layers_X1_firstAt
theorem dX5_layers_0 : decode cX5_layers 0 = .ok (.aload_n 0, 1) := by decide +kernel
theorem dX5_layers_1 : decode cX5_layers 1 = .ok (.iconst 0, 1) := by decide +kernel
theorem dX5_layers_2 : decode cX5_layers 2 = .ok (.putfield 46, 3) := by decide +kernel
theorem dX5_layers_5 : decode cX5_layers 5 = .ok (.iload_n 1, 1) := by decide +kernel
theorem dX5_layers_6 : decode cX5_layers 6 = .ok (.invokestatic 50, 3) := by decide +kernel
theorem dX5_layers_9 : decode cX5_layers 9 = .ok (.ifCond .ne 5, 3) := by decide +kernel
theorem dX5_layers_12 : decode cX5_layers 12 = .ok (.iconst (-1), 1) := by decide +kernel
theorem dX5_layers_13 : decode cX5_layers 13 = .ok (.ireturn, 1) := by decide +kernel
theorem dX5_layers_14 : decode cX5_layers 14 = .ok (.iload_n 2, 1) := by decide +kernel
theorem dX5_layers_15 : decode cX5_layers 15 = .ok (.invokestatic 54, 3) := by decide +kernel
theorem dX5_layers_18 : decode cX5_layers 18 = .ok (.ifCond .eq 16, 3) := by decide +kernel
theorem dX5_layers_21 : decode cX5_layers 21 = .ok (.iload 4, 2) := by decide +kernel
theorem dX5_layers_23 : decode cX5_layers 23 = .ok (.iconst (-1), 1) := by decide +kernel
theorem dX5_layers_24 : decode cX5_layers 24 = .ok (.if_icmp .lt 10, 3) := by decide +kernel
theorem dX5_layers_27 : decode cX5_layers 27 = .ok (.iload 4, 2) := by decide +kernel
theorem dX5_layers_29 : decode cX5_layers 29 = .ok (.bipush 9, 2) := by decide +kernel
theorem dX5_layers_31 : decode cX5_layers 31 = .ok (.if_icmp .lt 6, 3) := by decide +kernel
theorem dX5_layers_34 : decode cX5_layers 34 = .ok (.bipush (-2), 2) := by decide +kernel
theorem dX5_layers_36 : decode cX5_layers 36 = .ok (.ireturn, 1) := by decide +kernel
theorem dX5_layers_37 : decode cX5_layers 37 = .ok (.aload_n 0, 1) := by decide +kernel
theorem dX5_layers_38 : decode cX5_layers 38 = .ok (.invokevirtual 111, 3) := by decide +kernel
theorem dX5_layers_41 : decode cX5_layers 41 = .ok (.ifCond .ne 6, 3) := by decide +kernel
theorem dX5_layers_44 : decode cX5_layers 44 = .ok (.bipush (-3), 2) := by decide +kernel
theorem dX5_layers_46 : decode cX5_layers 46 = .ok (.ireturn, 1) := by decide +kernel
theorem dX5_layers_47 : decode cX5_layers 47 = .ok (.aload_n 0, 1) := by decide +kernel
theorem dX5_layers_48 : decode cX5_layers 48 = .ok (.getfield 41, 3) := by decide +kernel
theorem dX5_layers_51 : decode cX5_layers 51 = .ok (.iload_n 1, 1) := by decide +kernel
theorem dX5_layers_52 : decode cX5_layers 52 = .ok (.aaload, 1) := by decide +kernel
theorem dX5_layers_53 : decode cX5_layers 53 = .ok (.astore 5, 2) := by decide +kernel
theorem dX5_layers_55 : decode cX5_layers 55 = .ok (.aload 5, 2) := by decide +kernel
theorem dX5_layers_57 : decode cX5_layers 57 = .ok (.iload_n 2, 1) := by decide +kernel
theorem dX5_layers_58 : decode cX5_layers 58 = .ok (.iload_n 3, 1) := by decide +kernel
theorem dX5_layers_59 : decode cX5_layers 59 = .ok (.aload_n 0, 1) := by decide +kernel
theorem dX5_layers_60 : decode cX5_layers 60 = .ok (.getfield 12, 3) := by decide +kernel
theorem dX5_layers_63 : decode cX5_layers 63 = .ok (.getfield 79, 3) := by decide +kernel
theorem dX5_layers_66 : decode cX5_layers 66 = .ok (.invokevirtual 139, 3) := by decide +kernel
theorem dX5_layers_69 : decode cX5_layers 69 = .ok (.istore 6, 2) := by decide +kernel
theorem dX5_layers_71 : decode cX5_layers 71 = .ok (.iload 6, 2) := by decide +kernel
theorem dX5_layers_73 : decode cX5_layers 73 = .ok (.ifCond .eq 10, 3) := by decide +kernel
theorem dX5_layers_76 : decode cX5_layers 76 = .ok (.aload_n 0, 1) := by decide +kernel
theorem dX5_layers_77 : decode cX5_layers 77 = .ok (.iload 6, 2) := by decide +kernel
theorem dX5_layers_79 : decode cX5_layers 79 = .ok (.invokevirtual 65, 3) := by decide +kernel
theorem dX5_layers_82 : decode cX5_layers 82 = .ok (.ireturn, 1) := by decide +kernel
theorem dX5_layers_83 : decode cX5_layers 83 = .ok (.iconst 0, 1) := by decide +kernel
theorem dX5_layers_84 : decode cX5_layers 84 = .ok (.istore 7, 2) := by decide +kernel
theorem dX5_layers_86 : decode cX5_layers 86 = .ok (.iload 7, 2) := by decide +kernel
theorem dX5_layers_88 : decode cX5_layers 88 = .ok (.aload_n 0, 1) := by decide +kernel
theorem dX5_layers_89 : decode cX5_layers 89 = .ok (.getfield 12, 3) := by decide +kernel
theorem dX5_layers_92 : decode cX5_layers 92 = .ok (.getfield 79, 3) := by decide +kernel
theorem dX5_layers_95 : decode cX5_layers 95 = .ok (.if_icmp .ge 38, 3) := by decide +kernel
theorem dX5_layers_98 : decode cX5_layers 98 = .ok (.aload 5, 2) := by decide +kernel
theorem dX5_layers_100 : decode cX5_layers 100 = .ok (.iload_n 3, 1) := by decide +kernel
theorem dX5_layers_101 : decode cX5_layers 101 = .ok (.iload 7, 2) := by decide +kernel
theorem dX5_layers_103 : decode cX5_layers 103 = .ok (.iadd, 1) := by decide +kernel
theorem dX5_layers_104 : decode cX5_layers 104 = .ok (.invokevirtual 143, 3) := by decide +kernel
theorem dX5_layers_107 : decode cX5_layers 107 = .ok (.istore 8, 2) := by decide +kernel
theorem dX5_layers_109 : decode cX5_layers 109 = .ok (.iload 8, 2) := by decide +kernel
theorem dX5_layers_111 : decode cX5_layers 111 = .ok (.invokestatic 124, 3) := by decide +kernel
theorem dX5_layers_114 : decode cX5_layers 114 = .ok (.ifCond .ne 13, 3) := by decide +kernel
theorem dX5_layers_117 : decode cX5_layers 117 = .ok (.iload 8, 2) := by decide +kernel
theorem dX5_layers_119 : decode cX5_layers 119 = .ok (.bipush 6, 2) := by decide +kernel
theorem dX5_layers_121 : decode cX5_layers 121 = .ok (.if_icmp .eq 6, 3) := by decide +kernel
theorem dX5_layers_124 : decode cX5_layers 124 = .ok (.bipush (-2), 2) := by decide +kernel
theorem dX5_layers_126 : decode cX5_layers 126 = .ok (.ireturn, 1) := by decide +kernel
theorem dX5_layers_127 : decode cX5_layers 127 = .ok (.iinc 7 1, 3) := by decide +kernel
theorem dX5_layers_130 : decode cX5_layers 130 = .ok (.goto (-44), 3) := by decide +kernel
theorem dX5_layers_133 : decode cX5_layers 133 = .ok (.aload_n 0, 1) := by decide +kernel
theorem dX5_layers_134 : decode cX5_layers 134 = .ok (.getfield 35, 3) := by decide +kernel
theorem dX5_layers_137 : decode cX5_layers 137 = .ok (.aload_n 0, 1) := by decide +kernel
theorem dX5_layers_138 : decode cX5_layers 138 = .ok (.getfield 12, 3) := by decide +kernel
theorem dX5_layers_141 : decode cX5_layers 141 = .ok (.aload 5, 2) := by decide +kernel
theorem dX5_layers_143 : decode cX5_layers 143 = .ok (.iload_n 3, 1) := by decide +kernel
theorem dX5_layers_144 : decode cX5_layers 144 = .ok (.invokevirtual 159, 3) := by decide +kernel
theorem dX5_layers_147 : decode cX5_layers 147 = .ok (.iload 4, 2) := by decide +kernel
theorem dX5_layers_149 : decode cX5_layers 149 = .ok (.ifCond .ge 13, 3) := by decide +kernel
theorem dX5_layers_152 : decode cX5_layers 152 = .ok (.aload_n 0, 1) := by decide +kernel
theorem dX5_layers_153 : decode cX5_layers 153 = .ok (.getfield 35, 3) := by decide +kernel
theorem dX5_layers_156 : decode cX5_layers 156 = .ok (.getfield 163, 3) := by decide +kernel
theorem dX5_layers_159 : decode cX5_layers 159 = .ok (.goto 12, 3) := by decide +kernel
theorem dX5_layers_162 : decode cX5_layers 162 = .ok (.aload_n 0, 1) := by decide +kernel
theorem dX5_layers_163 : decode cX5_layers 163 = .ok (.getfield 35, 3) := by decide +kernel
theorem dX5_layers_166 : decode cX5_layers 166 = .ok (.iload 4, 2) := by decide +kernel
theorem dX5_layers_168 : decode cX5_layers 168 = .ok (.invokevirtual 166, 3) := by decide +kernel
theorem dX5_layers_171 : decode cX5_layers 171 = .ok (.ireturn, 1) := by decide +kernel
set_option maxRecDepth 20000 in
theorem ggX5_reading_X4_isPin : GoodIn wsX5_reading wsX4_isPin := goodIn_r _ [8, 9, 32, 33, 34, 35, 36, 37, 38] (by decide +kernel) (by decide +kernel)
set_option maxRecDepth 20000 in
theorem gX5_reading_X4_isPin : GoodIn wsX5_reading (wsV RX5 82 RX4 yX4_isPin wsX4_isPin) := goodIn_app (goodIn_of _ (by decide +kernel)) ggX5_reading_X4_isPin
set_option maxRecDepth 20000 in
theorem ggX5_reading_X5_isWish : GoodIn wsX5_reading wsX5_isWish := goodIn_r _ [13] (by decide +kernel) (by decide +kernel)
set_option maxRecDepth 20000 in
theorem gX5_reading_X5_isWish : GoodIn wsX5_reading (va_wsS RX5 124 yX5_isWish wsX5_isWish) := goodIn_app (goodIn_of _ (by decide +kernel)) ggX5_reading_X5_isWish
set_option maxRecDepth 20000 in
theorem ggX5_reading_X2_add : GoodIn wsX5_reading wsX2_add := goodIn_r _ [18, 19, 20, 21, 29, 30, 31] (by decide +kernel) (by decide +kernel)
set_option maxRecDepth 20000 in
theorem gX5_reading_X2_add : GoodIn wsX5_reading (wsV RX5 172 RX2 yX2_add wsX2_add) := goodIn_app (goodIn_of _ (by decide +kernel)) ggX5_reading_X2_add
theorem dX5_reading_0 : decode cX5_reading 0 = .ok (.aload_n 0, 1) := by decide +kernel
theorem dX5_reading_1 : decode cX5_reading 1 = .ok (.getfield 12, 3) := by decide +kernel
theorem dX5_reading_4 : decode cX5_reading 4 = .ok (.iload_n 1, 1) := by decide +kernel
theorem dX5_reading_5 : decode cX5_reading 5 = .ok (.invokevirtual 82, 3) := by decide +kernel
theorem dX5_reading_8 : decode cX5_reading 8 = .ok (.ifCond .ne 5, 3) := by decide +kernel
theorem dX5_reading_11 : decode cX5_reading 11 = .ok (.iconst (-1), 1) := by decide +kernel
theorem dX5_reading_12 : decode cX5_reading 12 = .ok (.ireturn, 1) := by decide +kernel
theorem dX5_reading_13 : decode cX5_reading 13 = .ok (.iload_n 2, 1) := by decide +kernel
theorem dX5_reading_14 : decode cX5_reading 14 = .ok (.invokestatic 124, 3) := by decide +kernel
theorem dX5_reading_17 : decode cX5_reading 17 = .ok (.ifCond .ne 6, 3) := by decide +kernel
theorem dX5_reading_20 : decode cX5_reading 20 = .ok (.bipush (-2), 2) := by decide +kernel
theorem dX5_reading_22 : decode cX5_reading 22 = .ok (.ireturn, 1) := by decide +kernel
theorem dX5_reading_23 : decode cX5_reading 23 = .ok (.aload_n 0, 1) := by decide +kernel
theorem dX5_reading_24 : decode cX5_reading 24 = .ok (.getfield 21, 3) := by decide +kernel
theorem dX5_reading_27 : decode cX5_reading 27 = .ok (.getfield 169, 3) := by decide +kernel
theorem dX5_reading_30 : decode cX5_reading 30 = .ok (.istore_n 3, 1) := by decide +kernel
theorem dX5_reading_31 : decode cX5_reading 31 = .ok (.aload_n 0, 1) := by decide +kernel
theorem dX5_reading_32 : decode cX5_reading 32 = .ok (.getfield 21, 3) := by decide +kernel
theorem dX5_reading_35 : decode cX5_reading 35 = .ok (.iload_n 1, 1) := by decide +kernel
theorem dX5_reading_36 : decode cX5_reading 36 = .ok (.iload_n 2, 1) := by decide +kernel
theorem dX5_reading_37 : decode cX5_reading 37 = .ok (.invokevirtual 172, 3) := by decide +kernel
theorem dX5_reading_40 : decode cX5_reading 40 = .ok (.ifCond .ne 6, 3) := by decide +kernel
theorem dX5_reading_43 : decode cX5_reading 43 = .ok (.bipush (-4), 2) := by decide +kernel
theorem dX5_reading_45 : decode cX5_reading 45 = .ok (.ireturn, 1) := by decide +kernel
theorem dX5_reading_46 : decode cX5_reading 46 = .ok (.iload_n 3, 1) := by decide +kernel
theorem dX5_reading_47 : decode cX5_reading 47 = .ok (.ireturn, 1) := by decide +kernel
theorem dX5_back_0 : decode cX5_back 0 = .ok (.iload_n 1, 1) := by decide +kernel
theorem dX5_back_1 : decode cX5_back 1 = .ok (.ifCond .lt 14, 3) := by decide +kernel
theorem dX5_back_4 : decode cX5_back 4 = .ok (.iload_n 1, 1) := by decide +kernel
theorem dX5_back_5 : decode cX5_back 5 = .ok (.aload_n 0, 1) := by decide +kernel
theorem dX5_back_6 : decode cX5_back 6 = .ok (.getfield 21, 3) := by decide +kernel
theorem dX5_back_9 : decode cX5_back 9 = .ok (.getfield 169, 3) := by decide +kernel
theorem dX5_back_12 : decode cX5_back 12 = .ok (.if_icmp .le 6, 3) := by decide +kernel
theorem dX5_back_15 : decode cX5_back 15 = .ok (.bipush (-2), 2) := by decide +kernel
theorem dX5_back_17 : decode cX5_back 17 = .ok (.ireturn, 1) := by decide +kernel
theorem dX5_back_18 : decode cX5_back 18 = .ok (.aload_n 0, 1) := by decide +kernel
theorem dX5_back_19 : decode cX5_back 19 = .ok (.getfield 21, 3) := by decide +kernel
theorem dX5_back_22 : decode cX5_back 22 = .ok (.dup, 1) := by decide +kernel
theorem dX5_back_23 : decode cX5_back 23 = .ok (.getfield 169, 3) := by decide +kernel
theorem dX5_back_26 : decode cX5_back 26 = .ok (.iload_n 1, 1) := by decide +kernel
theorem dX5_back_27 : decode cX5_back 27 = .ok (.isub, 1) := by decide +kernel
theorem dX5_back_28 : decode cX5_back 28 = .ok (.putfield 169, 3) := by decide +kernel
theorem dX5_back_31 : decode cX5_back 31 = .ok (.aload_n 0, 1) := by decide +kernel
theorem dX5_back_32 : decode cX5_back 32 = .ok (.getfield 21, 3) := by decide +kernel
theorem dX5_back_35 : decode cX5_back 35 = .ok (.getfield 169, 3) := by decide +kernel
theorem dX5_back_38 : decode cX5_back 38 = .ok (.ireturn, 1) := by decide +kernel
set_option maxRecDepth 20000 in
theorem ggX5_bends_X4_isPin : GoodIn wsX5_bends wsX4_isPin := goodIn_r _ [7, 8, 48, 49, 50, 51, 52, 53, 54] (by decide +kernel) (by decide +kernel)
set_option maxRecDepth 20000 in
theorem gX5_bends_X4_isPin : GoodIn wsX5_bends (wsV RX5 82 RX4 yX4_isPin wsX4_isPin) := goodIn_app (goodIn_of _ (by decide +kernel)) ggX5_bends_X4_isPin
set_option maxRecDepth 20000 in
theorem ggX5_bends_X4_kindAt : GoodIn wsX5_bends wsX4_kindAt := goodIn_r _ [12, 13, 14, 4, 5, 6, 7, 8, 48, 49, 50, 51, 52, 53, 54] (by decide +kernel) (by decide +kernel)
set_option maxRecDepth 20000 in
theorem gX5_bends_X4_kindAt : GoodIn wsX5_bends (wsV RX5 85 RX4 yX4_kindAt wsX4_kindAt) := goodIn_app (goodIn_of _ (by decide +kernel)) ggX5_bends_X4_kindAt
set_option maxRecDepth 20000 in
theorem ggX5_bends_X5_turnOf : GoodIn wsX5_bends wsX5_turnOf := goodIn_r _ [18] (by decide +kernel) (by decide +kernel)
set_option maxRecDepth 20000 in
theorem gX5_bends_X5_turnOf : GoodIn wsX5_bends (va_wsS RX5 94 yX5_turnOf wsX5_turnOf) := goodIn_app (goodIn_of _ (by decide +kernel)) ggX5_bends_X5_turnOf
set_option maxRecDepth 20000 in
theorem ggX5_bends_X2_areSoWith : GoodIn wsX5_bends wsX2_areSoWith := goodIn_r _ [23, 24, 25, 26, 27, 28, 29, 30, 31, 6, 32, 13, 33, 14, 4, 5, 7, 8, 16, 17, 18, 34, 35, 36, 37, 38, 39, 40, 55, 56, 57, 48, 49, 50, 51, 52, 53, 54] (by decide +kernel) (by decide +kernel)
set_option maxRecDepth 20000 in
theorem gX5_bends_X2_areSoWith : GoodIn wsX5_bends (wsV RX5 175 RX2 yX2_areSoWith wsX2_areSoWith) := goodIn_app (goodIn_of _ (by decide +kernel)) ggX5_bends_X2_areSoWith
theorem dX5_bends_0 : decode cX5_bends 0 = .ok (.aload_n 0, 1) := by decide +kernel
theorem dX5_bends_1 : decode cX5_bends 1 = .ok (.getfield 12, 3) := by decide +kernel
theorem dX5_bends_4 : decode cX5_bends 4 = .ok (.iload_n 1, 1) := by decide +kernel
theorem dX5_bends_5 : decode cX5_bends 5 = .ok (.invokevirtual 82, 3) := by decide +kernel
theorem dX5_bends_8 : decode cX5_bends 8 = .ok (.ifCond .ne 5, 3) := by decide +kernel
theorem dX5_bends_11 : decode cX5_bends 11 = .ok (.iconst (-1), 1) := by decide +kernel
theorem dX5_bends_12 : decode cX5_bends 12 = .ok (.ireturn, 1) := by decide +kernel
theorem dX5_bends_13 : decode cX5_bends 13 = .ok (.iconst 0, 1) := by decide +kernel
theorem dX5_bends_14 : decode cX5_bends 14 = .ok (.istore_n 2, 1) := by decide +kernel
theorem dX5_bends_15 : decode cX5_bends 15 = .ok (.iconst 0, 1) := by decide +kernel
theorem dX5_bends_16 : decode cX5_bends 16 = .ok (.istore_n 3, 1) := by decide +kernel
theorem dX5_bends_17 : decode cX5_bends 17 = .ok (.iload_n 3, 1) := by decide +kernel
theorem dX5_bends_18 : decode cX5_bends 18 = .ok (.bipush 10, 2) := by decide +kernel
theorem dX5_bends_20 : decode cX5_bends 20 = .ok (.if_icmp .ge 42, 3) := by decide +kernel
theorem dX5_bends_23 : decode cX5_bends 23 = .ok (.aload_n 0, 1) := by decide +kernel
theorem dX5_bends_24 : decode cX5_bends 24 = .ok (.getfield 21, 3) := by decide +kernel
theorem dX5_bends_27 : decode cX5_bends 27 = .ok (.aload_n 0, 1) := by decide +kernel
theorem dX5_bends_28 : decode cX5_bends 28 = .ok (.getfield 12, 3) := by decide +kernel
theorem dX5_bends_31 : decode cX5_bends 31 = .ok (.iload_n 1, 1) := by decide +kernel
theorem dX5_bends_32 : decode cX5_bends 32 = .ok (.aload_n 0, 1) := by decide +kernel
theorem dX5_bends_33 : decode cX5_bends 33 = .ok (.getfield 12, 3) := by decide +kernel
theorem dX5_bends_36 : decode cX5_bends 36 = .ok (.iload_n 1, 1) := by decide +kernel
theorem dX5_bends_37 : decode cX5_bends 37 = .ok (.invokevirtual 85, 3) := by decide +kernel
theorem dX5_bends_40 : decode cX5_bends 40 = .ok (.iload_n 3, 1) := by decide +kernel
theorem dX5_bends_41 : decode cX5_bends 41 = .ok (.invokestatic 94, 3) := by decide +kernel
theorem dX5_bends_44 : decode cX5_bends 44 = .ok (.invokevirtual 175, 3) := by decide +kernel
theorem dX5_bends_47 : decode cX5_bends 47 = .ok (.ifCond .eq 9, 3) := by decide +kernel
theorem dX5_bends_50 : decode cX5_bends 50 = .ok (.iload_n 2, 1) := by decide +kernel
theorem dX5_bends_51 : decode cX5_bends 51 = .ok (.iconst 1, 1) := by decide +kernel
theorem dX5_bends_52 : decode cX5_bends 52 = .ok (.iload_n 3, 1) := by decide +kernel
theorem dX5_bends_53 : decode cX5_bends 53 = .ok (.ishl, 1) := by decide +kernel
theorem dX5_bends_54 : decode cX5_bends 54 = .ok (.ior, 1) := by decide +kernel
theorem dX5_bends_55 : decode cX5_bends 55 = .ok (.istore_n 2, 1) := by decide +kernel
theorem dX5_bends_56 : decode cX5_bends 56 = .ok (.iinc 3 1, 3) := by decide +kernel
theorem dX5_bends_59 : decode cX5_bends 59 = .ok (.goto (-42), 3) := by decide +kernel
theorem dX5_bends_62 : decode cX5_bends 62 = .ok (.iload_n 2, 1) := by decide +kernel
theorem dX5_bends_63 : decode cX5_bends 63 = .ok (.ireturn, 1) := by decide +kernel
set_option maxRecDepth 20000 in
theorem ggX5_kinds_X4_isPin : GoodIn wsX5_kinds wsX4_isPin := goodIn_r _ [7, 8, 48, 49, 50, 51, 52, 53, 54] (by decide +kernel) (by decide +kernel)
set_option maxRecDepth 20000 in
theorem gX5_kinds_X4_isPin : GoodIn wsX5_kinds (wsV RX5 82 RX4 yX4_isPin wsX4_isPin) := goodIn_app (goodIn_of _ (by decide +kernel)) ggX5_kinds_X4_isPin
set_option maxRecDepth 20000 in
theorem ggX5_kinds_X4_bendAt : GoodIn wsX5_kinds wsX4_bendAt := goodIn_r _ [12, 13, 14, 4, 5, 6, 7, 8, 48, 49, 50, 51, 52, 53, 54] (by decide +kernel) (by decide +kernel)
set_option maxRecDepth 20000 in
theorem gX5_kinds_X4_bendAt : GoodIn wsX5_kinds (wsV RX5 88 RX4 yX4_bendAt wsX4_bendAt) := goodIn_app (goodIn_of _ (by decide +kernel)) ggX5_kinds_X4_bendAt
set_option maxRecDepth 20000 in
theorem ggX5_kinds_X5_turnOf : GoodIn wsX5_kinds wsX5_turnOf := goodIn_r _ [18] (by decide +kernel) (by decide +kernel)
set_option maxRecDepth 20000 in
theorem gX5_kinds_X5_turnOf : GoodIn wsX5_kinds (va_wsS RX5 94 yX5_turnOf wsX5_turnOf) := goodIn_app (goodIn_of _ (by decide +kernel)) ggX5_kinds_X5_turnOf
set_option maxRecDepth 20000 in
theorem ggX5_kinds_X2_areSoWith : GoodIn wsX5_kinds wsX2_areSoWith := goodIn_r _ [23, 24, 25, 26, 27, 28, 29, 30, 31, 6, 32, 33, 13, 14, 4, 5, 7, 8, 16, 17, 18, 34, 35, 36, 37, 38, 39, 40, 55, 56, 57, 48, 49, 50, 51, 52, 53, 54] (by decide +kernel) (by decide +kernel)
set_option maxRecDepth 20000 in
theorem gX5_kinds_X2_areSoWith : GoodIn wsX5_kinds (wsV RX5 175 RX2 yX2_areSoWith wsX2_areSoWith) := goodIn_app (goodIn_of _ (by decide +kernel)) ggX5_kinds_X2_areSoWith
theorem dX5_kinds_0 : decode cX5_kinds 0 = .ok (.aload_n 0, 1) := by decide +kernel
theorem dX5_kinds_1 : decode cX5_kinds 1 = .ok (.getfield 12, 3) := by decide +kernel
theorem dX5_kinds_4 : decode cX5_kinds 4 = .ok (.iload_n 1, 1) := by decide +kernel
theorem dX5_kinds_5 : decode cX5_kinds 5 = .ok (.invokevirtual 82, 3) := by decide +kernel
theorem dX5_kinds_8 : decode cX5_kinds 8 = .ok (.ifCond .ne 5, 3) := by decide +kernel
theorem dX5_kinds_11 : decode cX5_kinds 11 = .ok (.iconst (-1), 1) := by decide +kernel
theorem dX5_kinds_12 : decode cX5_kinds 12 = .ok (.ireturn, 1) := by decide +kernel
theorem dX5_kinds_13 : decode cX5_kinds 13 = .ok (.iconst 0, 1) := by decide +kernel
theorem dX5_kinds_14 : decode cX5_kinds 14 = .ok (.istore_n 2, 1) := by decide +kernel
theorem dX5_kinds_15 : decode cX5_kinds 15 = .ok (.iconst 0, 1) := by decide +kernel
theorem dX5_kinds_16 : decode cX5_kinds 16 = .ok (.istore_n 3, 1) := by decide +kernel
theorem dX5_kinds_17 : decode cX5_kinds 17 = .ok (.iload_n 3, 1) := by decide +kernel
theorem dX5_kinds_18 : decode cX5_kinds 18 = .ok (.iconst 2, 1) := by decide +kernel
theorem dX5_kinds_19 : decode cX5_kinds 19 = .ok (.if_icmp .gt 42, 3) := by decide +kernel
theorem dX5_kinds_22 : decode cX5_kinds 22 = .ok (.aload_n 0, 1) := by decide +kernel
theorem dX5_kinds_23 : decode cX5_kinds 23 = .ok (.getfield 21, 3) := by decide +kernel
theorem dX5_kinds_26 : decode cX5_kinds 26 = .ok (.aload_n 0, 1) := by decide +kernel
theorem dX5_kinds_27 : decode cX5_kinds 27 = .ok (.getfield 12, 3) := by decide +kernel
theorem dX5_kinds_30 : decode cX5_kinds 30 = .ok (.iload_n 1, 1) := by decide +kernel
theorem dX5_kinds_31 : decode cX5_kinds 31 = .ok (.iload_n 3, 1) := by decide +kernel
theorem dX5_kinds_32 : decode cX5_kinds 32 = .ok (.aload_n 0, 1) := by decide +kernel
theorem dX5_kinds_33 : decode cX5_kinds 33 = .ok (.getfield 12, 3) := by decide +kernel
theorem dX5_kinds_36 : decode cX5_kinds 36 = .ok (.iload_n 1, 1) := by decide +kernel
theorem dX5_kinds_37 : decode cX5_kinds 37 = .ok (.invokevirtual 88, 3) := by decide +kernel
theorem dX5_kinds_40 : decode cX5_kinds 40 = .ok (.invokestatic 94, 3) := by decide +kernel
theorem dX5_kinds_43 : decode cX5_kinds 43 = .ok (.invokevirtual 175, 3) := by decide +kernel
theorem dX5_kinds_46 : decode cX5_kinds 46 = .ok (.ifCond .eq 9, 3) := by decide +kernel
theorem dX5_kinds_49 : decode cX5_kinds 49 = .ok (.iload_n 2, 1) := by decide +kernel
theorem dX5_kinds_50 : decode cX5_kinds 50 = .ok (.iconst 1, 1) := by decide +kernel
theorem dX5_kinds_51 : decode cX5_kinds 51 = .ok (.iload_n 3, 1) := by decide +kernel
theorem dX5_kinds_52 : decode cX5_kinds 52 = .ok (.ishl, 1) := by decide +kernel
theorem dX5_kinds_53 : decode cX5_kinds 53 = .ok (.ior, 1) := by decide +kernel
theorem dX5_kinds_54 : decode cX5_kinds 54 = .ok (.istore_n 2, 1) := by decide +kernel
theorem dX5_kinds_55 : decode cX5_kinds 55 = .ok (.iinc 3 1, 3) := by decide +kernel
theorem dX5_kinds_58 : decode cX5_kinds 58 = .ok (.goto (-41), 3) := by decide +kernel
theorem dX5_kinds_61 : decode cX5_kinds 61 = .ok (.iload_n 2, 1) := by decide +kernel
theorem dX5_kinds_62 : decode cX5_kinds 62 = .ok (.ireturn, 1) := by decide +kernel
set_option maxRecDepth 20000 in
theorem ggX5_keys_X5_hasWell : GoodIn wsX5_keys wsX5_hasWell := goodIn_r _ [7, 2, 8, 41, 42, 43, 44, 45, 46, 47, 48, 49, 50, 51, 52, 53, 54] (by decide +kernel) (by decide +kernel)
set_option maxRecDepth 20000 in
theorem gX5_keys_X5_hasWell : GoodIn wsX5_keys (wsV RX5 111 RX5 yX5_hasWell wsX5_hasWell) := goodIn_app (goodIn_of _ (by decide +kernel)) ggX5_keys_X5_hasWell
set_option maxRecDepth 20000 in
theorem ggX5_keys_X2_areSoByKey : GoodIn wsX5_keys wsX2_areSoByKey := goodIn_r _ [13, 14, 15, 16, 17, 18, 19, 20, 21, 22, 23, 24, 25, 26, 27, 28, 29, 6, 30, 31, 32, 33, 34, 35, 36, 37, 55, 56, 57, 48, 49, 50, 51, 52, 53, 54] (by decide +kernel) (by decide +kernel)
set_option maxRecDepth 20000 in
theorem gX5_keys_X2_areSoByKey : GoodIn wsX5_keys (wsV RX5 179 RX2 yX2_areSoByKey wsX2_areSoByKey) := goodIn_app (goodIn_of _ (by decide +kernel)) ggX5_keys_X2_areSoByKey
set_option maxRecDepth 20000 in
theorem ggX5_keys_X5_keyNumber : GoodIn wsX5_keys wsX5_keyNumber := goodIn_r _ [40] (by decide +kernel) (by decide +kernel)
set_option maxRecDepth 20000 in
theorem gX5_keys_X5_keyNumber : GoodIn wsX5_keys (va_wsS RX5 121 yX5_keyNumber wsX5_keyNumber) := goodIn_app (goodIn_of _ (by decide +kernel)) ggX5_keys_X5_keyNumber
theorem dX5_keys_0 : decode cX5_keys 0 = .ok (.aload_n 0, 1) := by decide +kernel
theorem dX5_keys_1 : decode cX5_keys 1 = .ok (.invokevirtual 111, 3) := by decide +kernel
theorem dX5_keys_4 : decode cX5_keys 4 = .ok (.ifCond .ne 6, 3) := by decide +kernel
theorem dX5_keys_7 : decode cX5_keys 7 = .ok (.bipush (-3), 2) := by decide +kernel
theorem dX5_keys_9 : decode cX5_keys 9 = .ok (.ireturn, 1) := by decide +kernel
theorem dX5_keys_10 : decode cX5_keys 10 = .ok (.iload_n 1, 1) := by decide +kernel
theorem dX5_keys_11 : decode cX5_keys 11 = .ok (.ifCond .lt 8, 3) := by decide +kernel
theorem dX5_keys_14 : decode cX5_keys 14 = .ok (.iload_n 1, 1) := by decide +kernel
theorem dX5_keys_15 : decode cX5_keys 15 = .ok (.iconst 2, 1) := by decide +kernel
theorem dX5_keys_16 : decode cX5_keys 16 = .ok (.if_icmp .le 6, 3) := by decide +kernel
theorem dX5_keys_19 : decode cX5_keys 19 = .ok (.bipush (-2), 2) := by decide +kernel
theorem dX5_keys_21 : decode cX5_keys 21 = .ok (.ireturn, 1) := by decide +kernel
theorem dX5_keys_22 : decode cX5_keys 22 = .ok (.iconst 0, 1) := by decide +kernel
theorem dX5_keys_23 : decode cX5_keys 23 = .ok (.istore_n 2, 1) := by decide +kernel
theorem dX5_keys_24 : decode cX5_keys 24 = .ok (.bipush (-9), 2) := by decide +kernel
theorem dX5_keys_26 : decode cX5_keys 26 = .ok (.istore_n 3, 1) := by decide +kernel
theorem dX5_keys_27 : decode cX5_keys 27 = .ok (.bipush (-9), 2) := by decide +kernel
theorem dX5_keys_29 : decode cX5_keys 29 = .ok (.istore 4, 2) := by decide +kernel
theorem dX5_keys_31 : decode cX5_keys 31 = .ok (.iconst 1, 1) := by decide +kernel
theorem dX5_keys_32 : decode cX5_keys 32 = .ok (.istore 5, 2) := by decide +kernel
theorem dX5_keys_34 : decode cX5_keys 34 = .ok (.iload 5, 2) := by decide +kernel
theorem dX5_keys_36 : decode cX5_keys 36 = .ok (.iconst 5, 1) := by decide +kernel
theorem dX5_keys_37 : decode cX5_keys 37 = .ok (.if_icmp .gt 67, 3) := by decide +kernel
theorem dX5_keys_40 : decode cX5_keys 40 = .ok (.iconst 0, 1) := by decide +kernel
theorem dX5_keys_41 : decode cX5_keys 41 = .ok (.istore 6, 2) := by decide +kernel
theorem dX5_keys_43 : decode cX5_keys 43 = .ok (.iload 6, 2) := by decide +kernel
theorem dX5_keys_45 : decode cX5_keys 45 = .ok (.iconst 5, 1) := by decide +kernel
theorem dX5_keys_46 : decode cX5_keys 46 = .ok (.if_icmp .gt 52, 3) := by decide +kernel
theorem dX5_keys_49 : decode cX5_keys 49 = .ok (.aload_n 0, 1) := by decide +kernel
theorem dX5_keys_50 : decode cX5_keys 50 = .ok (.getfield 21, 3) := by decide +kernel
theorem dX5_keys_53 : decode cX5_keys 53 = .ok (.aload_n 0, 1) := by decide +kernel
theorem dX5_keys_54 : decode cX5_keys 54 = .ok (.getfield 12, 3) := by decide +kernel
theorem dX5_keys_57 : decode cX5_keys 57 = .ok (.iload 5, 2) := by decide +kernel
theorem dX5_keys_59 : decode cX5_keys 59 = .ok (.iload 6, 2) := by decide +kernel
theorem dX5_keys_61 : decode cX5_keys 61 = .ok (.invokevirtual 179, 3) := by decide +kernel
theorem dX5_keys_64 : decode cX5_keys 64 = .ok (.ifCond .eq 28, 3) := by decide +kernel
theorem dX5_keys_67 : decode cX5_keys 67 = .ok (.iinc 2 1, 3) := by decide +kernel
theorem dX5_keys_70 : decode cX5_keys 70 = .ok (.iload 5, 2) := by decide +kernel
theorem dX5_keys_72 : decode cX5_keys 72 = .ok (.iload 6, 2) := by decide +kernel
theorem dX5_keys_74 : decode cX5_keys 74 = .ok (.invokestatic 121, 3) := by decide +kernel
theorem dX5_keys_77 : decode cX5_keys 77 = .ok (.istore 4, 2) := by decide +kernel
theorem dX5_keys_79 : decode cX5_keys 79 = .ok (.iload_n 3, 1) := by decide +kernel
theorem dX5_keys_80 : decode cX5_keys 80 = .ok (.bipush (-9), 2) := by decide +kernel
theorem dX5_keys_82 : decode cX5_keys 82 = .ok (.if_icmp .ne 8, 3) := by decide +kernel
theorem dX5_keys_85 : decode cX5_keys 85 = .ok (.iload 4, 2) := by decide +kernel
theorem dX5_keys_87 : decode cX5_keys 87 = .ok (.goto 4, 3) := by decide +kernel
theorem dX5_keys_90 : decode cX5_keys 90 = .ok (.iload_n 3, 1) := by decide +kernel
theorem dX5_keys_91 : decode cX5_keys 91 = .ok (.istore_n 3, 1) := by decide +kernel
theorem dX5_keys_92 : decode cX5_keys 92 = .ok (.iinc 6 1, 3) := by decide +kernel
theorem dX5_keys_95 : decode cX5_keys 95 = .ok (.goto (-52), 3) := by decide +kernel
theorem dX5_keys_98 : decode cX5_keys 98 = .ok (.iinc 5 1, 3) := by decide +kernel
theorem dX5_keys_101 : decode cX5_keys 101 = .ok (.goto (-67), 3) := by decide +kernel
theorem dX5_keys_104 : decode cX5_keys 104 = .ok (.iload_n 1, 1) := by decide +kernel
theorem dX5_keys_105 : decode cX5_keys 105 = .ok (.ifCond .ne 5, 3) := by decide +kernel
theorem dX5_keys_108 : decode cX5_keys 108 = .ok (.iload_n 2, 1) := by decide +kernel
theorem dX5_keys_109 : decode cX5_keys 109 = .ok (.ireturn, 1) := by decide +kernel
theorem dX5_keys_110 : decode cX5_keys 110 = .ok (.iload_n 1, 1) := by decide +kernel
theorem dX5_keys_111 : decode cX5_keys 111 = .ok (.iconst 1, 1) := by decide +kernel
theorem dX5_keys_112 : decode cX5_keys 112 = .ok (.if_icmp .ne 7, 3) := by decide +kernel
theorem dX5_keys_115 : decode cX5_keys 115 = .ok (.iload_n 3, 1) := by decide +kernel
theorem dX5_keys_116 : decode cX5_keys 116 = .ok (.goto 5, 3) := by decide +kernel
theorem dX5_keys_119 : decode cX5_keys 119 = .ok (.iload 4, 2) := by decide +kernel
theorem dX5_keys_121 : decode cX5_keys 121 = .ok (.ireturn, 1) := by decide +kernel
set_option maxRecDepth 20000 in
theorem ggX5_odds_X5_isKind : GoodIn wsX5_odds wsX5_isKind := goodIn_r _ [6] (by decide +kernel) (by decide +kernel)
set_option maxRecDepth 20000 in
theorem gX5_odds_X5_isKind : GoodIn wsX5_odds (va_wsS RX5 127 yX5_isKind wsX5_isKind) := goodIn_app (goodIn_of _ (by decide +kernel)) ggX5_odds_X5_isKind
set_option maxRecDepth 20000 in
theorem ggX5_odds_X5_isWish : GoodIn wsX5_odds wsX5_isWish := goodIn_r _ [9] (by decide +kernel) (by decide +kernel)
set_option maxRecDepth 20000 in
theorem gX5_odds_X5_isWish : GoodIn wsX5_odds (va_wsS RX5 124 yX5_isWish wsX5_isWish) := goodIn_app (goodIn_of _ (by decide +kernel)) ggX5_odds_X5_isWish
set_option maxRecDepth 20000 in
theorem ggX5_odds_X5_hasWell : GoodIn wsX5_odds wsX5_hasWell := goodIn_r _ [13, 2, 14, 30, 31, 32, 33, 34, 35, 36, 37, 38, 39, 40, 41, 42, 43] (by decide +kernel) (by decide +kernel)
set_option maxRecDepth 20000 in
theorem gX5_odds_X5_hasWell : GoodIn wsX5_odds (wsV RX5 111 RX5 yX5_hasWell wsX5_hasWell) := goodIn_app (goodIn_of _ (by decide +kernel)) ggX5_odds_X5_hasWell
set_option maxRecDepth 20000 in
theorem ggX5_odds_X4_wishNow : GoodIn wsX5_odds wsX4_wishNow := goodIn_r _ [19, 20, 21, 22, 23, 5, 24, 25, 26, 37, 38, 39, 40, 41, 42, 43] (by decide +kernel) (by decide +kernel)
set_option maxRecDepth 20000 in
theorem gX5_odds_X4_wishNow : GoodIn wsX5_odds (wsV RX5 156 RX4 yX4_wishNow wsX4_wishNow) := goodIn_app (goodIn_of _ (by decide +kernel)) ggX5_odds_X4_wishNow
set_option maxRecDepth 20000 in
theorem ggX5_odds_X5_greatestShared : GoodIn wsX5_odds wsX5_greatestShared := goodIn_r _ [29] (by decide +kernel) (by decide +kernel)
set_option maxRecDepth 20000 in
theorem gX5_odds_X5_greatestShared : GoodIn wsX5_odds (va_wsS RX5 184 yX5_greatestShared wsX5_greatestShared) := goodIn_app (goodIn_of _ (by decide +kernel)) ggX5_odds_X5_greatestShared
theorem dX5_odds_0 : decode cX5_odds 0 = .ok (.iload_n 1, 1) := by decide +kernel
theorem dX5_odds_1 : decode cX5_odds 1 = .ok (.invokestatic 127, 3) := by decide +kernel
theorem dX5_odds_4 : decode cX5_odds 4 = .ok (.ifCond .eq 26, 3) := by decide +kernel
theorem dX5_odds_7 : decode cX5_odds 7 = .ok (.iload_n 2, 1) := by decide +kernel
theorem dX5_odds_8 : decode cX5_odds 8 = .ok (.invokestatic 124, 3) := by decide +kernel
theorem dX5_odds_11 : decode cX5_odds 11 = .ok (.ifCond .eq 19, 3) := by decide +kernel
theorem dX5_odds_14 : decode cX5_odds 14 = .ok (.iload_n 3, 1) := by decide +kernel
theorem dX5_odds_15 : decode cX5_odds 15 = .ok (.ifCond .eq 8, 3) := by decide +kernel
theorem dX5_odds_18 : decode cX5_odds 18 = .ok (.iload_n 3, 1) := by decide +kernel
theorem dX5_odds_19 : decode cX5_odds 19 = .ok (.iconst 1, 1) := by decide +kernel
theorem dX5_odds_20 : decode cX5_odds 20 = .ok (.if_icmp .ne 10, 3) := by decide +kernel
theorem dX5_odds_23 : decode cX5_odds 23 = .ok (.aload_n 0, 1) := by decide +kernel
theorem dX5_odds_24 : decode cX5_odds 24 = .ok (.invokevirtual 111, 3) := by decide +kernel
theorem dX5_odds_27 : decode cX5_odds 27 = .ok (.ifCond .ne 7, 3) := by decide +kernel
theorem dX5_odds_30 : decode cX5_odds 30 = .ok (.ldc2_w 182, 3) := by decide +kernel
theorem dX5_odds_33 : decode cX5_odds 33 = .ok (.lreturn, 1) := by decide +kernel
theorem dX5_odds_34 : decode cX5_odds 34 = .ok (.iconst 0, 1) := by decide +kernel
theorem dX5_odds_35 : decode cX5_odds 35 = .ok (.istore 4, 2) := by decide +kernel
theorem dX5_odds_37 : decode cX5_odds 37 = .ok (.iconst 0, 1) := by decide +kernel
theorem dX5_odds_38 : decode cX5_odds 38 = .ok (.istore 5, 2) := by decide +kernel
theorem dX5_odds_40 : decode cX5_odds 40 = .ok (.iload 5, 2) := by decide +kernel
theorem dX5_odds_42 : decode cX5_odds 42 = .ok (.bipush 10, 2) := by decide +kernel
theorem dX5_odds_44 : decode cX5_odds 44 = .ok (.if_icmp .ge 26, 3) := by decide +kernel
theorem dX5_odds_47 : decode cX5_odds 47 = .ok (.aload_n 0, 1) := by decide +kernel
theorem dX5_odds_48 : decode cX5_odds 48 = .ok (.getfield 12, 3) := by decide +kernel
theorem dX5_odds_51 : decode cX5_odds 51 = .ok (.iload_n 1, 1) := by decide +kernel
theorem dX5_odds_52 : decode cX5_odds 52 = .ok (.iload 5, 2) := by decide +kernel
theorem dX5_odds_54 : decode cX5_odds 54 = .ok (.invokevirtual 156, 3) := by decide +kernel
theorem dX5_odds_57 : decode cX5_odds 57 = .ok (.iload_n 2, 1) := by decide +kernel
theorem dX5_odds_58 : decode cX5_odds 58 = .ok (.if_icmp .ne 6, 3) := by decide +kernel
theorem dX5_odds_61 : decode cX5_odds 61 = .ok (.iinc 4 1, 3) := by decide +kernel
theorem dX5_odds_64 : decode cX5_odds 64 = .ok (.iinc 5 1, 3) := by decide +kernel
theorem dX5_odds_67 : decode cX5_odds 67 = .ok (.goto (-27), 3) := by decide +kernel
theorem dX5_odds_70 : decode cX5_odds 70 = .ok (.iload 4, 2) := by decide +kernel
theorem dX5_odds_72 : decode cX5_odds 72 = .ok (.bipush 10, 2) := by decide +kernel
theorem dX5_odds_74 : decode cX5_odds 74 = .ok (.invokestatic 184, 3) := by decide +kernel
theorem dX5_odds_77 : decode cX5_odds 77 = .ok (.istore 5, 2) := by decide +kernel
theorem dX5_odds_79 : decode cX5_odds 79 = .ok (.iload_n 3, 1) := by decide +kernel
theorem dX5_odds_80 : decode cX5_odds 80 = .ok (.ifCond .ne 12, 3) := by decide +kernel
theorem dX5_odds_83 : decode cX5_odds 83 = .ok (.iload 4, 2) := by decide +kernel
theorem dX5_odds_85 : decode cX5_odds 85 = .ok (.iload 5, 2) := by decide +kernel
theorem dX5_odds_87 : decode cX5_odds 87 = .ok (.idiv, 1) := by decide +kernel
theorem dX5_odds_88 : decode cX5_odds 88 = .ok (.i2l, 1) := by decide +kernel
theorem dX5_odds_89 : decode cX5_odds 89 = .ok (.goto 9, 3) := by decide +kernel
theorem dX5_odds_92 : decode cX5_odds 92 = .ok (.bipush 10, 2) := by decide +kernel
theorem dX5_odds_94 : decode cX5_odds 94 = .ok (.iload 5, 2) := by decide +kernel
theorem dX5_odds_96 : decode cX5_odds 96 = .ok (.idiv, 1) := by decide +kernel
theorem dX5_odds_97 : decode cX5_odds 97 = .ok (.i2l, 1) := by decide +kernel
theorem dX5_odds_98 : decode cX5_odds 98 = .ok (.lreturn, 1) := by decide +kernel
set_option maxRecDepth 20000 in
theorem ggX5_sheet_X5_isSheet : GoodIn wsX5_sheet wsX5_isSheet := goodIn_r _ [6] (by decide +kernel) (by decide +kernel)
set_option maxRecDepth 20000 in
theorem gX5_sheet_X5_isSheet : GoodIn wsX5_sheet (va_wsS RX5 50 yX5_isSheet wsX5_isSheet) := goodIn_app (goodIn_of _ (by decide +kernel)) ggX5_sheet_X5_isSheet
set_option maxRecDepth 20000 in
theorem ggX5_sheet_X5_isLane : GoodIn wsX5_sheet wsX5_isLane := goodIn_r _ [9] (by decide +kernel) (by decide +kernel)
set_option maxRecDepth 20000 in
theorem gX5_sheet_X5_isLane : GoodIn wsX5_sheet (va_wsS RX5 54 yX5_isLane wsX5_isLane) := goodIn_app (goodIn_of _ (by decide +kernel)) ggX5_sheet_X5_isLane
set_option maxRecDepth 20000 in
theorem ggX5_sheet_X5_failed : GoodIn wsX5_sheet wsX5_failed := goodIn_r _ [13, 1, 29, 30, 31, 32, 33, 34, 35] (by decide +kernel) (by decide +kernel)
set_option maxRecDepth 20000 in
theorem gX5_sheet_X5_failed : GoodIn wsX5_sheet (wsV RX5 65 RX5 yX5_failed wsX5_failed) := goodIn_app (goodIn_of _ (by decide +kernel)) ggX5_sheet_X5_failed
set_option maxRecDepth 20000 in
theorem ggX5_sheet_X3_begin : GoodIn wsX5_sheet wsX3_begin := goodIn_r _ [18, 19, 20, 21, 22, 23, 24, 25, 26, 27, 28, 36, 37, 38] (by decide +kernel) (by decide +kernel)
set_option maxRecDepth 20000 in
theorem gX5_sheet_X3_begin : GoodIn wsX5_sheet (wsV RX5 187 RX3 yX3_begin wsX3_begin) := goodIn_app (goodIn_of _ (by decide +kernel)) ggX5_sheet_X3_begin
theorem dX5_sheet_0 : decode cX5_sheet 0 = .ok (.aload_n 0, 1) := by decide +kernel
theorem dX5_sheet_1 : decode cX5_sheet 1 = .ok (.iconst 0, 1) := by decide +kernel
theorem dX5_sheet_2 : decode cX5_sheet 2 = .ok (.putfield 46, 3) := by decide +kernel
theorem dX5_sheet_5 : decode cX5_sheet 5 = .ok (.iload_n 1, 1) := by decide +kernel
theorem dX5_sheet_6 : decode cX5_sheet 6 = .ok (.invokestatic 50, 3) := by decide +kernel
theorem dX5_sheet_9 : decode cX5_sheet 9 = .ok (.ifCond .ne 5, 3) := by decide +kernel
theorem dX5_sheet_12 : decode cX5_sheet 12 = .ok (.iconst (-1), 1) := by decide +kernel
theorem dX5_sheet_13 : decode cX5_sheet 13 = .ok (.ireturn, 1) := by decide +kernel
theorem dX5_sheet_14 : decode cX5_sheet 14 = .ok (.iload_n 2, 1) := by decide +kernel
theorem dX5_sheet_15 : decode cX5_sheet 15 = .ok (.invokestatic 54, 3) := by decide +kernel
theorem dX5_sheet_18 : decode cX5_sheet 18 = .ok (.ifCond .eq 9, 3) := by decide +kernel
theorem dX5_sheet_21 : decode cX5_sheet 21 = .ok (.iload_n 3, 1) := by decide +kernel
theorem dX5_sheet_22 : decode cX5_sheet 22 = .ok (.bipush 60, 2) := by decide +kernel
theorem dX5_sheet_24 : decode cX5_sheet 24 = .ok (.if_icmp .le 6, 3) := by decide +kernel
theorem dX5_sheet_27 : decode cX5_sheet 27 = .ok (.bipush (-2), 2) := by decide +kernel
theorem dX5_sheet_29 : decode cX5_sheet 29 = .ok (.ireturn, 1) := by decide +kernel
theorem dX5_sheet_30 : decode cX5_sheet 30 = .ok (.iload_n 3, 1) := by decide +kernel
theorem dX5_sheet_31 : decode cX5_sheet 31 = .ok (.ifCond .ge 9, 3) := by decide +kernel
theorem dX5_sheet_34 : decode cX5_sheet 34 = .ok (.aload_n 0, 1) := by decide +kernel
theorem dX5_sheet_35 : decode cX5_sheet 35 = .ok (.iconst 4, 1) := by decide +kernel
theorem dX5_sheet_36 : decode cX5_sheet 36 = .ok (.invokevirtual 65, 3) := by decide +kernel
theorem dX5_sheet_39 : decode cX5_sheet 39 = .ok (.ireturn, 1) := by decide +kernel
theorem dX5_sheet_40 : decode cX5_sheet 40 = .ok (.aload_n 0, 1) := by decide +kernel
theorem dX5_sheet_41 : decode cX5_sheet 41 = .ok (.getfield 41, 3) := by decide +kernel
theorem dX5_sheet_44 : decode cX5_sheet 44 = .ok (.iload_n 1, 1) := by decide +kernel
theorem dX5_sheet_45 : decode cX5_sheet 45 = .ok (.aaload, 1) := by decide +kernel
theorem dX5_sheet_46 : decode cX5_sheet 46 = .ok (.iload_n 2, 1) := by decide +kernel
theorem dX5_sheet_47 : decode cX5_sheet 47 = .ok (.iload_n 3, 1) := by decide +kernel
theorem dX5_sheet_48 : decode cX5_sheet 48 = .ok (.invokevirtual 187, 3) := by decide +kernel
theorem dX5_sheet_51 : decode cX5_sheet 51 = .ok (.iconst 1, 1) := by decide +kernel
theorem dX5_sheet_52 : decode cX5_sheet 52 = .ok (.ireturn, 1) := by decide +kernel
set_option maxRecDepth 20000 in
theorem ggX5_lose_X5_isSheet : GoodIn wsX5_lose wsX5_isSheet := goodIn_r _ [5] (by decide +kernel) (by decide +kernel)
set_option maxRecDepth 20000 in
theorem gX5_lose_X5_isSheet : GoodIn wsX5_lose (va_wsS RX5 50 yX5_isSheet wsX5_isSheet) := goodIn_app (goodIn_of _ (by decide +kernel)) ggX5_lose_X5_isSheet
set_option maxRecDepth 20000 in
theorem ggX5_lose_X3_hasRow : GoodIn wsX5_lose wsX3_hasRow := goodIn_r _ [10, 11, 24, 25, 26] (by decide +kernel) (by decide +kernel)
set_option maxRecDepth 20000 in
theorem gX5_lose_X3_hasRow : GoodIn wsX5_lose (wsV RX5 190 RX3 yX3_hasRow wsX3_hasRow) := goodIn_app (goodIn_of _ (by decide +kernel)) ggX5_lose_X3_hasRow
set_option maxRecDepth 20000 in
theorem ggX5_lose_X3_end : GoodIn wsX5_lose wsX3_end := goodIn_r _ [15, 11, 16, 24, 25, 26] (by decide +kernel) (by decide +kernel)
set_option maxRecDepth 20000 in
theorem gX5_lose_X3_end : GoodIn wsX5_lose (wsV RX5 193 RX3 yX3_end wsX3_end) := goodIn_app (goodIn_of _ (by decide +kernel)) ggX5_lose_X3_end
theorem dX5_lose_0 : decode cX5_lose 0 = .ok (.iload_n 1, 1) := by decide +kernel
theorem dX5_lose_1 : decode cX5_lose 1 = .ok (.invokestatic 50, 3) := by decide +kernel
theorem dX5_lose_4 : decode cX5_lose 4 = .ok (.ifCond .ne 5, 3) := by decide +kernel
theorem dX5_lose_7 : decode cX5_lose 7 = .ok (.iconst (-1), 1) := by decide +kernel
theorem dX5_lose_8 : decode cX5_lose 8 = .ok (.ireturn, 1) := by decide +kernel
theorem dX5_lose_9 : decode cX5_lose 9 = .ok (.aload_n 0, 1) := by decide +kernel
theorem dX5_lose_10 : decode cX5_lose 10 = .ok (.getfield 41, 3) := by decide +kernel
theorem dX5_lose_13 : decode cX5_lose 13 = .ok (.iload_n 1, 1) := by decide +kernel
theorem dX5_lose_14 : decode cX5_lose 14 = .ok (.aaload, 1) := by decide +kernel
theorem dX5_lose_15 : decode cX5_lose 15 = .ok (.invokevirtual 190, 3) := by decide +kernel
theorem dX5_lose_18 : decode cX5_lose 18 = .ok (.istore_n 2, 1) := by decide +kernel
theorem dX5_lose_19 : decode cX5_lose 19 = .ok (.aload_n 0, 1) := by decide +kernel
theorem dX5_lose_20 : decode cX5_lose 20 = .ok (.getfield 41, 3) := by decide +kernel
theorem dX5_lose_23 : decode cX5_lose 23 = .ok (.iload_n 1, 1) := by decide +kernel
theorem dX5_lose_24 : decode cX5_lose 24 = .ok (.aaload, 1) := by decide +kernel
theorem dX5_lose_25 : decode cX5_lose 25 = .ok (.invokevirtual 193, 3) := by decide +kernel
theorem dX5_lose_28 : decode cX5_lose 28 = .ok (.iload_n 2, 1) := by decide +kernel
theorem dX5_lose_29 : decode cX5_lose 29 = .ok (.ifCond .eq 7, 3) := by decide +kernel
theorem dX5_lose_32 : decode cX5_lose 32 = .ok (.iconst 1, 1) := by decide +kernel
theorem dX5_lose_33 : decode cX5_lose 33 = .ok (.goto 4, 3) := by decide +kernel
theorem dX5_lose_36 : decode cX5_lose 36 = .ok (.iconst 0, 1) := by decide +kernel
theorem dX5_lose_37 : decode cX5_lose 37 = .ok (.ireturn, 1) := by decide +kernel
set_option maxRecDepth 20000 in
theorem ggX5_put_X5_isSheet : GoodIn wsX5_put wsX5_isSheet := goodIn_r _ [6] (by decide +kernel) (by decide +kernel)
set_option maxRecDepth 20000 in
theorem gX5_put_X5_isSheet : GoodIn wsX5_put (va_wsS RX5 50 yX5_isSheet wsX5_isSheet) := goodIn_app (goodIn_of _ (by decide +kernel)) ggX5_put_X5_isSheet
set_option maxRecDepth 20000 in
theorem ggX5_put_X3_hasRow : GoodIn wsX5_put wsX3_hasRow := goodIn_r _ [11, 12, 35, 36, 37] (by decide +kernel) (by decide +kernel)
set_option maxRecDepth 20000 in
theorem gX5_put_X3_hasRow : GoodIn wsX5_put (wsV RX5 190 RX3 yX3_hasRow wsX3_hasRow) := goodIn_app (goodIn_of _ (by decide +kernel)) ggX5_put_X3_hasRow
set_option maxRecDepth 20000 in
theorem ggX5_put_X5_failed : GoodIn wsX5_put wsX5_failed := goodIn_r _ [16, 1, 28, 29, 30, 31, 32, 33, 34] (by decide +kernel) (by decide +kernel)
set_option maxRecDepth 20000 in
theorem gX5_put_X5_failed : GoodIn wsX5_put (wsV RX5 65 RX5 yX5_failed wsX5_failed) := goodIn_app (goodIn_of _ (by decide +kernel)) ggX5_put_X5_failed
set_option maxRecDepth 20000 in
theorem ggX5_put_X3_hasCells : GoodIn wsX5_put wsX3_hasCells := goodIn_r _ [20, 21, 35, 36, 37] (by decide +kernel) (by decide +kernel)
set_option maxRecDepth 20000 in
theorem gX5_put_X3_hasCells : GoodIn wsX5_put (wsV RX5 61 RX3 yX3_hasCells wsX3_hasCells) := goodIn_app (goodIn_of _ (by decide +kernel)) ggX5_put_X3_hasCells
set_option maxRecDepth 20000 in
theorem ggX5_put_X3_set : GoodIn wsX5_put wsX3_set := goodIn_r _ [25, 12, 26, 27, 18, 19, 10, 20, 21, 35, 36, 37] (by decide +kernel) (by decide +kernel)
set_option maxRecDepth 20000 in
theorem gX5_put_X3_set : GoodIn wsX5_put (wsV RX5 196 RX3 yX3_set wsX3_set) := goodIn_app (goodIn_of _ (by decide +kernel)) ggX5_put_X3_set
theorem dX5_put_0 : decode cX5_put 0 = .ok (.aload_n 0, 1) := by decide +kernel
theorem dX5_put_1 : decode cX5_put 1 = .ok (.iconst 0, 1) := by decide +kernel
theorem dX5_put_2 : decode cX5_put 2 = .ok (.putfield 46, 3) := by decide +kernel
theorem dX5_put_5 : decode cX5_put 5 = .ok (.iload_n 1, 1) := by decide +kernel
theorem dX5_put_6 : decode cX5_put 6 = .ok (.invokestatic 50, 3) := by decide +kernel
theorem dX5_put_9 : decode cX5_put 9 = .ok (.ifCond .ne 5, 3) := by decide +kernel
theorem dX5_put_12 : decode cX5_put 12 = .ok (.iconst (-1), 1) := by decide +kernel
theorem dX5_put_13 : decode cX5_put 13 = .ok (.ireturn, 1) := by decide +kernel
theorem dX5_put_14 : decode cX5_put 14 = .ok (.aload_n 0, 1) := by decide +kernel
theorem dX5_put_15 : decode cX5_put 15 = .ok (.getfield 41, 3) := by decide +kernel
theorem dX5_put_18 : decode cX5_put 18 = .ok (.iload_n 1, 1) := by decide +kernel
theorem dX5_put_19 : decode cX5_put 19 = .ok (.aaload, 1) := by decide +kernel
theorem dX5_put_20 : decode cX5_put 20 = .ok (.astore 4, 2) := by decide +kernel
theorem dX5_put_22 : decode cX5_put 22 = .ok (.aload 4, 2) := by decide +kernel
theorem dX5_put_24 : decode cX5_put 24 = .ok (.invokevirtual 190, 3) := by decide +kernel
theorem dX5_put_27 : decode cX5_put 27 = .ok (.ifCond .ne 9, 3) := by decide +kernel
theorem dX5_put_30 : decode cX5_put 30 = .ok (.aload_n 0, 1) := by decide +kernel
theorem dX5_put_31 : decode cX5_put 31 = .ok (.iconst 1, 1) := by decide +kernel
theorem dX5_put_32 : decode cX5_put 32 = .ok (.invokevirtual 65, 3) := by decide +kernel
theorem dX5_put_35 : decode cX5_put 35 = .ok (.ireturn, 1) := by decide +kernel
theorem dX5_put_36 : decode cX5_put 36 = .ok (.aload 4, 2) := by decide +kernel
theorem dX5_put_38 : decode cX5_put 38 = .ok (.iload_n 2, 1) := by decide +kernel
theorem dX5_put_39 : decode cX5_put 39 = .ok (.iconst 1, 1) := by decide +kernel
theorem dX5_put_40 : decode cX5_put 40 = .ok (.invokevirtual 61, 3) := by decide +kernel
theorem dX5_put_43 : decode cX5_put 43 = .ok (.ifCond .ne 9, 3) := by decide +kernel
theorem dX5_put_46 : decode cX5_put 46 = .ok (.aload_n 0, 1) := by decide +kernel
theorem dX5_put_47 : decode cX5_put 47 = .ok (.iconst 3, 1) := by decide +kernel
theorem dX5_put_48 : decode cX5_put 48 = .ok (.invokevirtual 65, 3) := by decide +kernel
theorem dX5_put_51 : decode cX5_put 51 = .ok (.ireturn, 1) := by decide +kernel
theorem dX5_put_52 : decode cX5_put 52 = .ok (.aload 4, 2) := by decide +kernel
theorem dX5_put_54 : decode cX5_put 54 = .ok (.iload_n 2, 1) := by decide +kernel
theorem dX5_put_55 : decode cX5_put 55 = .ok (.iload_n 3, 1) := by decide +kernel
theorem dX5_put_56 : decode cX5_put 56 = .ok (.invokevirtual 196, 3) := by decide +kernel
theorem dX5_put_59 : decode cX5_put 59 = .ok (.iconst 1, 1) := by decide +kernel
theorem dX5_put_60 : decode cX5_put 60 = .ok (.ireturn, 1) := by decide +kernel
set_option maxRecDepth 20000 in
theorem ggX5_cell_X5_isSheet : GoodIn wsX5_cell wsX5_isSheet := goodIn_r _ [7] (by decide +kernel) (by decide +kernel)
set_option maxRecDepth 20000 in
theorem gX5_cell_X5_isSheet : GoodIn wsX5_cell (va_wsS RX5 50 yX5_isSheet wsX5_isSheet) := goodIn_app (goodIn_of _ (by decide +kernel)) ggX5_cell_X5_isSheet
set_option maxRecDepth 20000 in
theorem ggX5_cell_X5_isLane : GoodIn wsX5_cell wsX5_isLane := goodIn_r _ [10] (by decide +kernel) (by decide +kernel)
set_option maxRecDepth 20000 in
theorem gX5_cell_X5_isLane : GoodIn wsX5_cell (va_wsS RX5 54 yX5_isLane wsX5_isLane) := goodIn_app (goodIn_of _ (by decide +kernel)) ggX5_cell_X5_isLane
set_option maxRecDepth 20000 in
theorem ggX5_cell_X3_faultOfCells : GoodIn wsX5_cell wsX3_faultOfCells := goodIn_r _ [15, 16, 17, 18, 14, 19, 20, 21, 22, 23, 24, 25, 26, 27, 28, 29, 42, 43, 44] (by decide +kernel) (by decide +kernel)
set_option maxRecDepth 20000 in
theorem gX5_cell_X3_faultOfCells : GoodIn wsX5_cell (wsV RX5 139 RX3 yX3_faultOfCells wsX3_faultOfCells) := goodIn_app (goodIn_of _ (by decide +kernel)) ggX5_cell_X3_faultOfCells
set_option maxRecDepth 20000 in
theorem ggX5_cell_X3_at : GoodIn wsX5_cell wsX3_at := goodIn_r _ [33, 34, 25, 26, 27, 14, 28, 29, 42, 43, 44] (by decide +kernel) (by decide +kernel)
set_option maxRecDepth 20000 in
theorem gX5_cell_X3_at : GoodIn wsX5_cell (wsV RX5 143 RX3 yX3_at wsX3_at) := goodIn_app (goodIn_of _ (by decide +kernel)) ggX5_cell_X3_at
theorem dX5_cell_0 : decode cX5_cell 0 = .ok (.aload_n 0, 1) := by decide +kernel
theorem dX5_cell_1 : decode cX5_cell 1 = .ok (.iconst 0, 1) := by decide +kernel
theorem dX5_cell_2 : decode cX5_cell 2 = .ok (.putfield 46, 3) := by decide +kernel
theorem dX5_cell_5 : decode cX5_cell 5 = .ok (.iload_n 1, 1) := by decide +kernel
theorem dX5_cell_6 : decode cX5_cell 6 = .ok (.invokestatic 50, 3) := by decide +kernel
theorem dX5_cell_9 : decode cX5_cell 9 = .ok (.ifCond .eq 10, 3) := by decide +kernel
theorem dX5_cell_12 : decode cX5_cell 12 = .ok (.iload_n 3, 1) := by decide +kernel
theorem dX5_cell_13 : decode cX5_cell 13 = .ok (.invokestatic 54, 3) := by decide +kernel
theorem dX5_cell_16 : decode cX5_cell 16 = .ok (.ifCond .ne 7, 3) := by decide +kernel
theorem dX5_cell_19 : decode cX5_cell 19 = .ok (.ldc2_w 182, 3) := by decide +kernel
theorem dX5_cell_22 : decode cX5_cell 22 = .ok (.lreturn, 1) := by decide +kernel
theorem dX5_cell_23 : decode cX5_cell 23 = .ok (.aload_n 0, 1) := by decide +kernel
theorem dX5_cell_24 : decode cX5_cell 24 = .ok (.getfield 41, 3) := by decide +kernel
theorem dX5_cell_27 : decode cX5_cell 27 = .ok (.iload_n 1, 1) := by decide +kernel
theorem dX5_cell_28 : decode cX5_cell 28 = .ok (.aaload, 1) := by decide +kernel
theorem dX5_cell_29 : decode cX5_cell 29 = .ok (.astore 4, 2) := by decide +kernel
theorem dX5_cell_31 : decode cX5_cell 31 = .ok (.aload 4, 2) := by decide +kernel
theorem dX5_cell_33 : decode cX5_cell 33 = .ok (.iload_n 3, 1) := by decide +kernel
theorem dX5_cell_34 : decode cX5_cell 34 = .ok (.iload_n 2, 1) := by decide +kernel
theorem dX5_cell_35 : decode cX5_cell 35 = .ok (.iconst 1, 1) := by decide +kernel
theorem dX5_cell_36 : decode cX5_cell 36 = .ok (.invokevirtual 139, 3) := by decide +kernel
theorem dX5_cell_39 : decode cX5_cell 39 = .ok (.istore 5, 2) := by decide +kernel
theorem dX5_cell_41 : decode cX5_cell 41 = .ok (.iload 5, 2) := by decide +kernel
theorem dX5_cell_43 : decode cX5_cell 43 = .ok (.ifCond .eq 13, 3) := by decide +kernel
theorem dX5_cell_46 : decode cX5_cell 46 = .ok (.aload_n 0, 1) := by decide +kernel
theorem dX5_cell_47 : decode cX5_cell 47 = .ok (.iload 5, 2) := by decide +kernel
theorem dX5_cell_49 : decode cX5_cell 49 = .ok (.putfield 46, 3) := by decide +kernel
theorem dX5_cell_52 : decode cX5_cell 52 = .ok (.ldc2_w 182, 3) := by decide +kernel
theorem dX5_cell_55 : decode cX5_cell 55 = .ok (.lreturn, 1) := by decide +kernel
theorem dX5_cell_56 : decode cX5_cell 56 = .ok (.aload 4, 2) := by decide +kernel
theorem dX5_cell_58 : decode cX5_cell 58 = .ok (.iload_n 2, 1) := by decide +kernel
theorem dX5_cell_59 : decode cX5_cell 59 = .ok (.invokevirtual 143, 3) := by decide +kernel
theorem dX5_cell_62 : decode cX5_cell 62 = .ok (.i2l, 1) := by decide +kernel
theorem dX5_cell_63 : decode cX5_cell 63 = .ok (.lreturn, 1) := by decide +kernel
set_option maxRecDepth 20000 in
theorem ggX5_copy_X5_isSheet : GoodIn wsX5_copy wsX5_isSheet := goodIn_r _ [12] (by decide +kernel) (by decide +kernel)
set_option maxRecDepth 20000 in
theorem gX5_copy_X5_isSheet : GoodIn wsX5_copy (va_wsS RX5 50 yX5_isSheet wsX5_isSheet) := goodIn_app (goodIn_of _ (by decide +kernel)) ggX5_copy_X5_isSheet
set_option maxRecDepth 20000 in
theorem ggX5_copy_X3_hasRow : GoodIn wsX5_copy wsX3_hasRow := goodIn_r _ [17, 18, 35, 36, 37] (by decide +kernel) (by decide +kernel)
set_option maxRecDepth 20000 in
theorem gX5_copy_X3_hasRow : GoodIn wsX5_copy (wsV RX5 190 RX3 yX3_hasRow wsX3_hasRow) := goodIn_app (goodIn_of _ (by decide +kernel)) ggX5_copy_X3_hasRow
set_option maxRecDepth 20000 in
theorem ggX5_copy_X5_failed : GoodIn wsX5_copy wsX5_failed := goodIn_r _ [22, 1, 28, 29, 30, 31, 32, 33, 34] (by decide +kernel) (by decide +kernel)
set_option maxRecDepth 20000 in
theorem gX5_copy_X5_failed : GoodIn wsX5_copy (wsV RX5 65 RX5 yX5_failed wsX5_failed) := goodIn_app (goodIn_of _ (by decide +kernel)) ggX5_copy_X5_failed
set_option maxRecDepth 20000 in
theorem ggX5_copy_X3_hasCells : GoodIn wsX5_copy wsX3_hasCells := goodIn_r _ [26, 27, 35, 36, 37] (by decide +kernel) (by decide +kernel)
set_option maxRecDepth 20000 in
theorem gX5_copy_X3_hasCells : GoodIn wsX5_copy (wsV RX5 61 RX3 yX3_hasCells wsX3_hasCells) := goodIn_app (goodIn_of _ (by decide +kernel)) ggX5_copy_X3_hasCells
theorem dX5_copy_0 : decode cX5_copy 0 = .ok (.aload_n 0, 1) := by decide +kernel
theorem dX5_copy_1 : decode cX5_copy 1 = .ok (.iconst 0, 1) := by decide +kernel
theorem dX5_copy_2 : decode cX5_copy 2 = .ok (.putfield 46, 3) := by decide +kernel
theorem dX5_copy_5 : decode cX5_copy 5 = .ok (.iload_n 1, 1) := by decide +kernel
theorem dX5_copy_6 : decode cX5_copy 6 = .ok (.invokestatic 50, 3) := by decide +kernel
theorem dX5_copy_9 : decode cX5_copy 9 = .ok (.ifCond .eq 10, 3) := by decide +kernel
theorem dX5_copy_12 : decode cX5_copy 12 = .ok (.iload_n 3, 1) := by decide +kernel
theorem dX5_copy_13 : decode cX5_copy 13 = .ok (.invokestatic 50, 3) := by decide +kernel
theorem dX5_copy_16 : decode cX5_copy 16 = .ok (.ifCond .ne 5, 3) := by decide +kernel
theorem dX5_copy_19 : decode cX5_copy 19 = .ok (.iconst (-1), 1) := by decide +kernel
theorem dX5_copy_20 : decode cX5_copy 20 = .ok (.ireturn, 1) := by decide +kernel
theorem dX5_copy_21 : decode cX5_copy 21 = .ok (.aload_n 0, 1) := by decide +kernel
theorem dX5_copy_22 : decode cX5_copy 22 = .ok (.getfield 41, 3) := by decide +kernel
theorem dX5_copy_25 : decode cX5_copy 25 = .ok (.iload_n 1, 1) := by decide +kernel
theorem dX5_copy_26 : decode cX5_copy 26 = .ok (.aaload, 1) := by decide +kernel
theorem dX5_copy_27 : decode cX5_copy 27 = .ok (.astore 6, 2) := by decide +kernel
theorem dX5_copy_29 : decode cX5_copy 29 = .ok (.aload_n 0, 1) := by decide +kernel
theorem dX5_copy_30 : decode cX5_copy 30 = .ok (.getfield 41, 3) := by decide +kernel
theorem dX5_copy_33 : decode cX5_copy 33 = .ok (.iload_n 3, 1) := by decide +kernel
theorem dX5_copy_34 : decode cX5_copy 34 = .ok (.aaload, 1) := by decide +kernel
theorem dX5_copy_35 : decode cX5_copy 35 = .ok (.astore 7, 2) := by decide +kernel
theorem dX5_copy_37 : decode cX5_copy 37 = .ok (.aload 6, 2) := by decide +kernel
theorem dX5_copy_39 : decode cX5_copy 39 = .ok (.invokevirtual 190, 3) := by decide +kernel
theorem dX5_copy_42 : decode cX5_copy 42 = .ok (.ifCond .eq 11, 3) := by decide +kernel
theorem dX5_copy_45 : decode cX5_copy 45 = .ok (.aload 7, 2) := by decide +kernel
theorem dX5_copy_47 : decode cX5_copy 47 = .ok (.invokevirtual 190, 3) := by decide +kernel
theorem dX5_copy_50 : decode cX5_copy 50 = .ok (.ifCond .ne 9, 3) := by decide +kernel
theorem dX5_copy_53 : decode cX5_copy 53 = .ok (.aload_n 0, 1) := by decide +kernel
theorem dX5_copy_54 : decode cX5_copy 54 = .ok (.iconst 1, 1) := by decide +kernel
theorem dX5_copy_55 : decode cX5_copy 55 = .ok (.invokevirtual 65, 3) := by decide +kernel
theorem dX5_copy_58 : decode cX5_copy 58 = .ok (.ireturn, 1) := by decide +kernel
theorem dX5_copy_59 : decode cX5_copy 59 = .ok (.aload 6, 2) := by decide +kernel
theorem dX5_copy_61 : decode cX5_copy 61 = .ok (.getfield 199, 3) := by decide +kernel
theorem dX5_copy_64 : decode cX5_copy 64 = .ok (.aload 7, 2) := by decide +kernel
theorem dX5_copy_66 : decode cX5_copy 66 = .ok (.getfield 199, 3) := by decide +kernel
theorem dX5_copy_69 : decode cX5_copy 69 = .ok (.if_icmp .eq 9, 3) := by decide +kernel
theorem dX5_copy_72 : decode cX5_copy 72 = .ok (.aload_n 0, 1) := by decide +kernel
theorem dX5_copy_73 : decode cX5_copy 73 = .ok (.iconst 2, 1) := by decide +kernel
theorem dX5_copy_74 : decode cX5_copy 74 = .ok (.invokevirtual 65, 3) := by decide +kernel
theorem dX5_copy_77 : decode cX5_copy 77 = .ok (.ireturn, 1) := by decide +kernel
theorem dX5_copy_78 : decode cX5_copy 78 = .ok (.aload 6, 2) := by decide +kernel
theorem dX5_copy_80 : decode cX5_copy 80 = .ok (.iload_n 2, 1) := by decide +kernel
theorem dX5_copy_81 : decode cX5_copy 81 = .ok (.iload 5, 2) := by decide +kernel
theorem dX5_copy_83 : decode cX5_copy 83 = .ok (.invokevirtual 61, 3) := by decide +kernel
theorem dX5_copy_86 : decode cX5_copy 86 = .ok (.ifCond .eq 15, 3) := by decide +kernel
theorem dX5_copy_89 : decode cX5_copy 89 = .ok (.aload 7, 2) := by decide +kernel
theorem dX5_copy_91 : decode cX5_copy 91 = .ok (.iload 4, 2) := by decide +kernel
theorem dX5_copy_93 : decode cX5_copy 93 = .ok (.iload 5, 2) := by decide +kernel
theorem dX5_copy_95 : decode cX5_copy 95 = .ok (.invokevirtual 61, 3) := by decide +kernel
theorem dX5_copy_98 : decode cX5_copy 98 = .ok (.ifCond .ne 9, 3) := by decide +kernel
theorem dX5_copy_101 : decode cX5_copy 101 = .ok (.aload_n 0, 1) := by decide +kernel
theorem dX5_copy_102 : decode cX5_copy 102 = .ok (.iconst 3, 1) := by decide +kernel
theorem dX5_copy_103 : decode cX5_copy 103 = .ok (.invokevirtual 65, 3) := by decide +kernel
theorem dX5_copy_106 : decode cX5_copy 106 = .ok (.ireturn, 1) := by decide +kernel
theorem dX5_copy_107 : decode cX5_copy 107 = .ok (.aload 6, 2) := by decide +kernel
theorem dX5_copy_109 : decode cX5_copy 109 = .ok (.getfield 202, 3) := by decide +kernel
theorem dX5_copy_112 : decode cX5_copy 112 = .ok (.iload_n 2, 1) := by decide +kernel
theorem dX5_copy_113 : decode cX5_copy 113 = .ok (.aload 7, 2) := by decide +kernel
theorem dX5_copy_115 : decode cX5_copy 115 = .ok (.getfield 202, 3) := by decide +kernel
theorem dX5_copy_118 : decode cX5_copy 118 = .ok (.iload 4, 2) := by decide +kernel
theorem dX5_copy_120 : decode cX5_copy 120 = .ok (.iload 5, 2) := by decide +kernel
theorem dX5_copy_122 : decode cX5_copy 122 = .ok (.invokestatic 206, 3) := by decide +kernel
theorem dX5_copy_125 : decode cX5_copy 125 = .ok (.iload 5, 2) := by decide +kernel
theorem dX5_copy_127 : decode cX5_copy 127 = .ok (.ireturn, 1) := by decide +kernel
set_option maxRecDepth 20000 in
theorem ggX5_tell_X4_isPin : GoodIn wsX5_tell wsX4_isPin := goodIn_r _ [6, 7, 44, 45, 46, 47, 48, 49, 50] (by decide +kernel) (by decide +kernel)
set_option maxRecDepth 20000 in
theorem gX5_tell_X4_isPin : GoodIn wsX5_tell (wsV RX5 82 RX4 yX4_isPin wsX4_isPin) := goodIn_app (goodIn_of _ (by decide +kernel)) ggX5_tell_X4_isPin
set_option maxRecDepth 20000 in
theorem ggX5_tell_X4_bendAt : GoodIn wsX5_tell wsX4_bendAt := goodIn_r _ [11, 12, 13, 3, 4, 5, 6, 7, 44, 45, 46, 47, 48, 49, 50] (by decide +kernel) (by decide +kernel)
set_option maxRecDepth 20000 in
theorem gX5_tell_X4_bendAt : GoodIn wsX5_tell (wsV RX5 88 RX4 yX4_bendAt wsX4_bendAt) := goodIn_app (goodIn_of _ (by decide +kernel)) ggX5_tell_X4_bendAt
set_option maxRecDepth 20000 in
theorem ggX5_tell_X4_kindAt : GoodIn wsX5_tell wsX4_kindAt := goodIn_r _ [17, 18, 13, 3, 4, 5, 6, 7, 44, 45, 46, 47, 48, 49, 50] (by decide +kernel) (by decide +kernel)
set_option maxRecDepth 20000 in
theorem gX5_tell_X4_kindAt : GoodIn wsX5_tell (wsV RX5 85 RX4 yX4_kindAt wsX4_kindAt) := goodIn_app (goodIn_of _ (by decide +kernel)) ggX5_tell_X4_kindAt
set_option maxRecDepth 20000 in
theorem ggX5_tell_X5_tellPlain : GoodIn wsX5_tell wsX5_tellPlain := goodIn_r _ [23, 24, 25, 26, 22, 27, 28, 37, 38, 39, 40, 41, 42, 43] (by decide +kernel) (by decide +kernel)
set_option maxRecDepth 20000 in
theorem gX5_tell_X5_tellPlain : GoodIn wsX5_tell (wsV RX5 212 RX5 yX5_tellPlain wsX5_tellPlain) := goodIn_app (goodIn_of _ (by decide +kernel)) ggX5_tell_X5_tellPlain
set_option maxRecDepth 20000 in
theorem ggX5_tell_X5_tellCrook : GoodIn wsX5_tell wsX5_tellCrook := goodIn_r _ [32, 24, 25, 26, 22, 27, 28, 19, 20, 21, 23, 37, 38, 39, 40, 41, 42, 43] (by decide +kernel) (by decide +kernel)
set_option maxRecDepth 20000 in
theorem gX5_tell_X5_tellCrook : GoodIn wsX5_tell (wsV RX5 215 RX5 yX5_tellCrook wsX5_tellCrook) := goodIn_app (goodIn_of _ (by decide +kernel)) ggX5_tell_X5_tellCrook
set_option maxRecDepth 20000 in
theorem ggX5_tell_X5_tellDouble : GoodIn wsX5_tell wsX5_tellDouble := goodIn_r _ [36, 24, 25, 26, 22, 27, 28, 29, 30, 31, 32, 19, 20, 21, 23, 37, 38, 39, 40, 41, 42, 43] (by decide +kernel) (by decide +kernel)
set_option maxRecDepth 20000 in
theorem gX5_tell_X5_tellDouble : GoodIn wsX5_tell (wsV RX5 218 RX5 yX5_tellDouble wsX5_tellDouble) := goodIn_app (goodIn_of _ (by decide +kernel)) ggX5_tell_X5_tellDouble
theorem dX5_tell_0 : decode cX5_tell 0 = .ok (.aload_n 0, 1) := by decide +kernel
theorem dX5_tell_1 : decode cX5_tell 1 = .ok (.getfield 12, 3) := by decide +kernel
theorem dX5_tell_4 : decode cX5_tell 4 = .ok (.iload_n 1, 1) := by decide +kernel
theorem dX5_tell_5 : decode cX5_tell 5 = .ok (.invokevirtual 82, 3) := by decide +kernel
theorem dX5_tell_8 : decode cX5_tell 8 = .ok (.ifCond .ne 5, 3) := by decide +kernel
theorem dX5_tell_11 : decode cX5_tell 11 = .ok (.iconst (-1), 1) := by decide +kernel
theorem dX5_tell_12 : decode cX5_tell 12 = .ok (.ireturn, 1) := by decide +kernel
theorem dX5_tell_13 : decode cX5_tell 13 = .ok (.aload_n 0, 1) := by decide +kernel
theorem dX5_tell_14 : decode cX5_tell 14 = .ok (.getfield 12, 3) := by decide +kernel
theorem dX5_tell_17 : decode cX5_tell 17 = .ok (.iload_n 1, 1) := by decide +kernel
theorem dX5_tell_18 : decode cX5_tell 18 = .ok (.invokevirtual 88, 3) := by decide +kernel
theorem dX5_tell_21 : decode cX5_tell 21 = .ok (.istore_n 2, 1) := by decide +kernel
theorem dX5_tell_22 : decode cX5_tell 22 = .ok (.aload_n 0, 1) := by decide +kernel
theorem dX5_tell_23 : decode cX5_tell 23 = .ok (.getfield 12, 3) := by decide +kernel
theorem dX5_tell_26 : decode cX5_tell 26 = .ok (.iload_n 1, 1) := by decide +kernel
theorem dX5_tell_27 : decode cX5_tell 27 = .ok (.invokevirtual 85, 3) := by decide +kernel
theorem dX5_tell_30 : decode cX5_tell 30 = .ok (.lookupswitch 38 #[(0, 26), (1, 32)], 26) := by decide +kernel
theorem dX5_tell_56 : decode cX5_tell 56 = .ok (.aload_n 0, 1) := by decide +kernel
theorem dX5_tell_57 : decode cX5_tell 57 = .ok (.iload_n 2, 1) := by decide +kernel
theorem dX5_tell_58 : decode cX5_tell 58 = .ok (.invokevirtual 212, 3) := by decide +kernel
theorem dX5_tell_61 : decode cX5_tell 61 = .ok (.ireturn, 1) := by decide +kernel
theorem dX5_tell_62 : decode cX5_tell 62 = .ok (.aload_n 0, 1) := by decide +kernel
theorem dX5_tell_63 : decode cX5_tell 63 = .ok (.iload_n 2, 1) := by decide +kernel
theorem dX5_tell_64 : decode cX5_tell 64 = .ok (.invokevirtual 215, 3) := by decide +kernel
theorem dX5_tell_67 : decode cX5_tell 67 = .ok (.ireturn, 1) := by decide +kernel
theorem dX5_tell_68 : decode cX5_tell 68 = .ok (.aload_n 0, 1) := by decide +kernel
theorem dX5_tell_69 : decode cX5_tell 69 = .ok (.iload_n 2, 1) := by decide +kernel
theorem dX5_tell_70 : decode cX5_tell 70 = .ok (.invokevirtual 218, 3) := by decide +kernel
theorem dX5_tell_73 : decode cX5_tell 73 = .ok (.ireturn, 1) := by decide +kernel
set_option maxRecDepth 20000 in
theorem ggX5_splash_X4_isPin : GoodIn wsX5_splash wsX4_isPin := goodIn_r _ [6, 7, 27, 28, 29, 30, 31, 32, 33] (by decide +kernel) (by decide +kernel)
set_option maxRecDepth 20000 in
theorem gX5_splash_X4_isPin : GoodIn wsX5_splash (wsV RX5 82 RX4 yX4_isPin wsX4_isPin) := goodIn_app (goodIn_of _ (by decide +kernel)) ggX5_splash_X4_isPin
set_option maxRecDepth 20000 in
theorem ggX5_splash_X4_kindAt : GoodIn wsX5_splash wsX4_kindAt := goodIn_r _ [11, 12, 13, 3, 4, 5, 6, 7, 27, 28, 29, 30, 31, 32, 33] (by decide +kernel) (by decide +kernel)
set_option maxRecDepth 20000 in
theorem gX5_splash_X4_kindAt : GoodIn wsX5_splash (wsV RX5 85 RX4 yX4_kindAt wsX4_kindAt) := goodIn_app (goodIn_of _ (by decide +kernel)) ggX5_splash_X4_kindAt
set_option maxRecDepth 20000 in
theorem ggX5_splash_X5_beginBody : GoodIn wsX5_splash wsX5_beginBody := goodIn_r _ [18, 19, 20, 21, 22, 23, 24, 25, 26] (by decide +kernel) (by decide +kernel)
set_option maxRecDepth 20000 in
theorem gX5_splash_X5_beginBody : GoodIn wsX5_splash (wsV RX5 221 RX5 yX5_beginBody wsX5_beginBody) := goodIn_app (goodIn_of _ (by decide +kernel)) ggX5_splash_X5_beginBody
theorem dX5_splash_0 : decode cX5_splash 0 = .ok (.aload_n 0, 1) := by decide +kernel
theorem dX5_splash_1 : decode cX5_splash 1 = .ok (.getfield 12, 3) := by decide +kernel
theorem dX5_splash_4 : decode cX5_splash 4 = .ok (.iload_n 1, 1) := by decide +kernel
theorem dX5_splash_5 : decode cX5_splash 5 = .ok (.invokevirtual 82, 3) := by decide +kernel
theorem dX5_splash_8 : decode cX5_splash 8 = .ok (.ifCond .ne 5, 3) := by decide +kernel
theorem dX5_splash_11 : decode cX5_splash 11 = .ok (.iconst (-1), 1) := by decide +kernel
theorem dX5_splash_12 : decode cX5_splash 12 = .ok (.ireturn, 1) := by decide +kernel
theorem dX5_splash_13 : decode cX5_splash 13 = .ok (.aload_n 0, 1) := by decide +kernel
theorem dX5_splash_14 : decode cX5_splash 14 = .ok (.getfield 12, 3) := by decide +kernel
theorem dX5_splash_17 : decode cX5_splash 17 = .ok (.iload_n 1, 1) := by decide +kernel
theorem dX5_splash_18 : decode cX5_splash 18 = .ok (.invokevirtual 85, 3) := by decide +kernel
theorem dX5_splash_21 : decode cX5_splash 21 = .ok (.iconst 2, 1) := by decide +kernel
theorem dX5_splash_22 : decode cX5_splash 22 = .ok (.if_icmp .ne 11, 3) := by decide +kernel
theorem dX5_splash_25 : decode cX5_splash 25 = .ok (.aload_n 0, 1) := by decide +kernel
theorem dX5_splash_26 : decode cX5_splash 26 = .ok (.iconst 5, 1) := by decide +kernel
theorem dX5_splash_27 : decode cX5_splash 27 = .ok (.invokevirtual 221, 3) := by decide +kernel
theorem dX5_splash_30 : decode cX5_splash 30 = .ok (.bipush 50, 2) := by decide +kernel
theorem dX5_splash_32 : decode cX5_splash 32 = .ok (.ireturn, 1) := by decide +kernel
theorem dX5_splash_33 : decode cX5_splash 33 = .ok (.aload_n 0, 1) := by decide +kernel
theorem dX5_splash_34 : decode cX5_splash 34 = .ok (.iconst 4, 1) := by decide +kernel
theorem dX5_splash_35 : decode cX5_splash 35 = .ok (.invokevirtual 221, 3) := by decide +kernel
theorem dX5_splash_38 : decode cX5_splash 38 = .ok (.iload_n 1, 1) := by decide +kernel
theorem dX5_splash_39 : decode cX5_splash 39 = .ok (.ireturn, 1) := by decide +kernel
set_option maxRecDepth 20000 in
theorem ggX5_as_X4_isPin : GoodIn wsX5_as wsX4_isPin := goodIn_r _ [7, 8, 30, 31, 32, 33, 34, 35, 36] (by decide +kernel) (by decide +kernel)
set_option maxRecDepth 20000 in
theorem gX5_as_X4_isPin : GoodIn wsX5_as (wsV RX5 82 RX4 yX4_isPin wsX4_isPin) := goodIn_app (goodIn_of _ (by decide +kernel)) ggX5_as_X4_isPin
set_option maxRecDepth 20000 in
theorem ggX5_as_X5_isKind : GoodIn wsX5_as wsX5_isKind := goodIn_r _ [12] (by decide +kernel) (by decide +kernel)
set_option maxRecDepth 20000 in
theorem gX5_as_X5_isKind : GoodIn wsX5_as (va_wsS RX5 127 yX5_isKind wsX5_isKind) := goodIn_app (goodIn_of _ (by decide +kernel)) ggX5_as_X5_isKind
set_option maxRecDepth 20000 in
theorem ggX5_as_X4_kindAt : GoodIn wsX5_as wsX4_kindAt := goodIn_r _ [16, 17, 18, 4, 5, 6, 7, 8, 30, 31, 32, 33, 34, 35, 36] (by decide +kernel) (by decide +kernel)
set_option maxRecDepth 20000 in
theorem gX5_as_X4_kindAt : GoodIn wsX5_as (wsV RX5 85 RX4 yX4_kindAt wsX4_kindAt) := goodIn_app (goodIn_of _ (by decide +kernel)) ggX5_as_X4_kindAt
set_option maxRecDepth 20000 in
theorem ggX5_as_X5_failed : GoodIn wsX5_as wsX5_failed := goodIn_r _ [22, 1, 23, 24, 25, 26, 27, 28, 29] (by decide +kernel) (by decide +kernel)
set_option maxRecDepth 20000 in
theorem gX5_as_X5_failed : GoodIn wsX5_as (wsV RX5 65 RX5 yX5_failed wsX5_failed) := goodIn_app (goodIn_of _ (by decide +kernel)) ggX5_as_X5_failed
theorem dX5_as_0 : decode cX5_as 0 = .ok (.aload_n 0, 1) := by decide +kernel
theorem dX5_as_1 : decode cX5_as 1 = .ok (.iconst 0, 1) := by decide +kernel
theorem dX5_as_2 : decode cX5_as 2 = .ok (.putfield 46, 3) := by decide +kernel
theorem dX5_as_5 : decode cX5_as 5 = .ok (.aload_n 0, 1) := by decide +kernel
theorem dX5_as_6 : decode cX5_as 6 = .ok (.getfield 12, 3) := by decide +kernel
theorem dX5_as_9 : decode cX5_as 9 = .ok (.iload_n 1, 1) := by decide +kernel
theorem dX5_as_10 : decode cX5_as 10 = .ok (.invokevirtual 82, 3) := by decide +kernel
theorem dX5_as_13 : decode cX5_as 13 = .ok (.ifCond .ne 5, 3) := by decide +kernel
theorem dX5_as_16 : decode cX5_as 16 = .ok (.iconst (-1), 1) := by decide +kernel
theorem dX5_as_17 : decode cX5_as 17 = .ok (.ireturn, 1) := by decide +kernel
theorem dX5_as_18 : decode cX5_as 18 = .ok (.iload_n 2, 1) := by decide +kernel
theorem dX5_as_19 : decode cX5_as 19 = .ok (.invokestatic 127, 3) := by decide +kernel
theorem dX5_as_22 : decode cX5_as 22 = .ok (.ifCond .ne 6, 3) := by decide +kernel
theorem dX5_as_25 : decode cX5_as 25 = .ok (.bipush (-2), 2) := by decide +kernel
theorem dX5_as_27 : decode cX5_as 27 = .ok (.ireturn, 1) := by decide +kernel
theorem dX5_as_28 : decode cX5_as 28 = .ok (.aload_n 0, 1) := by decide +kernel
theorem dX5_as_29 : decode cX5_as 29 = .ok (.getfield 12, 3) := by decide +kernel
theorem dX5_as_32 : decode cX5_as 32 = .ok (.iload_n 1, 1) := by decide +kernel
theorem dX5_as_33 : decode cX5_as 33 = .ok (.invokevirtual 85, 3) := by decide +kernel
theorem dX5_as_36 : decode cX5_as 36 = .ok (.iload_n 2, 1) := by decide +kernel
theorem dX5_as_37 : decode cX5_as 37 = .ok (.if_icmp .ge 9, 3) := by decide +kernel
theorem dX5_as_40 : decode cX5_as 40 = .ok (.aload_n 0, 1) := by decide +kernel
theorem dX5_as_41 : decode cX5_as 41 = .ok (.iconst 2, 1) := by decide +kernel
theorem dX5_as_42 : decode cX5_as 42 = .ok (.invokevirtual 65, 3) := by decide +kernel
theorem dX5_as_45 : decode cX5_as 45 = .ok (.ireturn, 1) := by decide +kernel
theorem dX5_as_46 : decode cX5_as 46 = .ok (.iconst 1, 1) := by decide +kernel
theorem dX5_as_47 : decode cX5_as 47 = .ok (.ireturn, 1) := by decide +kernel
theorem dX5_trace_0 : decode cX5_trace 0 = .ok (.aload_n 0, 1) := by decide +kernel
theorem dX5_trace_1 : decode cX5_trace 1 = .ok (.getfield 225, 3) := by decide +kernel
theorem dX5_trace_4 : decode cX5_trace 4 = .ok (.ireturn, 1) := by decide +kernel
theorem dX5_fault_0 : decode cX5_fault 0 = .ok (.aload_n 0, 1) := by decide +kernel
theorem dX5_fault_1 : decode cX5_fault 1 = .ok (.getfield 46, 3) := by decide +kernel
theorem dX5_fault_4 : decode cX5_fault 4 = .ok (.ireturn, 1) := by decide +kernel
theorem dX5_many_0 : decode cX5_many 0 = .ok (.iload_n 1, 1) := by decide +kernel
theorem dX5_many_1 : decode cX5_many 1 = .ok (.tableswitch 75 0 4 #[35, 43, 51, 59, 67], 35) := by decide +kernel
theorem dX5_many_36 : decode cX5_many 36 = .ok (.aload_n 0, 1) := by decide +kernel
theorem dX5_many_37 : decode cX5_many 37 = .ok (.getfield 12, 3) := by decide +kernel
theorem dX5_many_40 : decode cX5_many 40 = .ok (.getfield 79, 3) := by decide +kernel
theorem dX5_many_43 : decode cX5_many 43 = .ok (.ireturn, 1) := by decide +kernel
theorem dX5_many_44 : decode cX5_many 44 = .ok (.aload_n 0, 1) := by decide +kernel
theorem dX5_many_45 : decode cX5_many 45 = .ok (.getfield 12, 3) := by decide +kernel
theorem dX5_many_48 : decode cX5_many 48 = .ok (.getfield 115, 3) := by decide +kernel
theorem dX5_many_51 : decode cX5_many 51 = .ok (.ireturn, 1) := by decide +kernel
theorem dX5_many_52 : decode cX5_many 52 = .ok (.aload_n 0, 1) := by decide +kernel
theorem dX5_many_53 : decode cX5_many 53 = .ok (.getfield 12, 3) := by decide +kernel
theorem dX5_many_56 : decode cX5_many 56 = .ok (.getfield 118, 3) := by decide +kernel
theorem dX5_many_59 : decode cX5_many 59 = .ok (.ireturn, 1) := by decide +kernel
theorem dX5_many_60 : decode cX5_many 60 = .ok (.aload_n 0, 1) := by decide +kernel
theorem dX5_many_61 : decode cX5_many 61 = .ok (.getfield 12, 3) := by decide +kernel
theorem dX5_many_64 : decode cX5_many 64 = .ok (.getfield 101, 3) := by decide +kernel
theorem dX5_many_67 : decode cX5_many 67 = .ok (.ireturn, 1) := by decide +kernel
theorem dX5_many_68 : decode cX5_many 68 = .ok (.aload_n 0, 1) := by decide +kernel
theorem dX5_many_69 : decode cX5_many 69 = .ok (.getfield 21, 3) := by decide +kernel
theorem dX5_many_72 : decode cX5_many 72 = .ok (.getfield 169, 3) := by decide +kernel
theorem dX5_many_75 : decode cX5_many 75 = .ok (.ireturn, 1) := by decide +kernel
theorem dX5_many_76 : decode cX5_many 76 = .ok (.bipush (-2), 2) := by decide +kernel
theorem dX5_many_78 : decode cX5_many 78 = .ok (.ireturn, 1) := by decide +kernel
theorem dX5_failed_0 : decode cX5_failed 0 = .ok (.aload_n 0, 1) := by decide +kernel
theorem dX5_failed_1 : decode cX5_failed 1 = .ok (.iload_n 1, 1) := by decide +kernel
theorem dX5_failed_2 : decode cX5_failed 2 = .ok (.putfield 46, 3) := by decide +kernel
theorem dX5_failed_5 : decode cX5_failed 5 = .ok (.bipush (-10), 2) := by decide +kernel
theorem dX5_failed_7 : decode cX5_failed 7 = .ok (.iload_n 1, 1) := by decide +kernel
theorem dX5_failed_8 : decode cX5_failed 8 = .ok (.isub, 1) := by decide +kernel
theorem dX5_failed_9 : decode cX5_failed 9 = .ok (.ireturn, 1) := by decide +kernel
theorem dX5_hasWell_0 : decode cX5_hasWell 0 = .ok (.aload_n 0, 1) := by decide +kernel
theorem dX5_hasWell_1 : decode cX5_hasWell 1 = .ok (.getfield 12, 3) := by decide +kernel
theorem dX5_hasWell_4 : decode cX5_hasWell 4 = .ok (.getfield 79, 3) := by decide +kernel
theorem dX5_hasWell_7 : decode cX5_hasWell 7 = .ok (.ifCond .le 7, 3) := by decide +kernel
theorem dX5_hasWell_10 : decode cX5_hasWell 10 = .ok (.iconst 1, 1) := by decide +kernel
theorem dX5_hasWell_11 : decode cX5_hasWell 11 = .ok (.goto 4, 3) := by decide +kernel
theorem dX5_hasWell_14 : decode cX5_hasWell 14 = .ok (.iconst 0, 1) := by decide +kernel
theorem dX5_hasWell_15 : decode cX5_hasWell 15 = .ok (.ireturn, 1) := by decide +kernel
theorem dX5_isSheet_0 : decode cX5_isSheet 0 = .ok (.iload_n 0, 1) := by decide +kernel
theorem dX5_isSheet_1 : decode cX5_isSheet 1 = .ok (.ifCond .lt 12, 3) := by decide +kernel
theorem dX5_isSheet_4 : decode cX5_isSheet 4 = .ok (.iload_n 0, 1) := by decide +kernel
theorem dX5_isSheet_5 : decode cX5_isSheet 5 = .ok (.iconst 4, 1) := by decide +kernel
theorem dX5_isSheet_6 : decode cX5_isSheet 6 = .ok (.if_icmp .ge 7, 3) := by decide +kernel
theorem dX5_isSheet_9 : decode cX5_isSheet 9 = .ok (.iconst 1, 1) := by decide +kernel
theorem dX5_isSheet_10 : decode cX5_isSheet 10 = .ok (.goto 4, 3) := by decide +kernel
theorem dX5_isSheet_13 : decode cX5_isSheet 13 = .ok (.iconst 0, 1) := by decide +kernel
theorem dX5_isSheet_14 : decode cX5_isSheet 14 = .ok (.ireturn, 1) := by decide +kernel
theorem dX5_isLane_0 : decode cX5_isLane 0 = .ok (.iload_n 0, 1) := by decide +kernel
theorem dX5_isLane_1 : decode cX5_isLane 1 = .ok (.ifCond .lt 12, 3) := by decide +kernel
theorem dX5_isLane_4 : decode cX5_isLane 4 = .ok (.iload_n 0, 1) := by decide +kernel
theorem dX5_isLane_5 : decode cX5_isLane 5 = .ok (.iconst 3, 1) := by decide +kernel
theorem dX5_isLane_6 : decode cX5_isLane 6 = .ok (.if_icmp .ge 7, 3) := by decide +kernel
theorem dX5_isLane_9 : decode cX5_isLane 9 = .ok (.iconst 1, 1) := by decide +kernel
theorem dX5_isLane_10 : decode cX5_isLane 10 = .ok (.goto 4, 3) := by decide +kernel
theorem dX5_isLane_13 : decode cX5_isLane 13 = .ok (.iconst 0, 1) := by decide +kernel
theorem dX5_isLane_14 : decode cX5_isLane 14 = .ok (.ireturn, 1) := by decide +kernel
theorem dX5_isKind_0 : decode cX5_isKind 0 = .ok (.iload_n 0, 1) := by decide +kernel
theorem dX5_isKind_1 : decode cX5_isKind 1 = .ok (.ifCond .lt 12, 3) := by decide +kernel
theorem dX5_isKind_4 : decode cX5_isKind 4 = .ok (.iload_n 0, 1) := by decide +kernel
theorem dX5_isKind_5 : decode cX5_isKind 5 = .ok (.iconst 2, 1) := by decide +kernel
theorem dX5_isKind_6 : decode cX5_isKind 6 = .ok (.if_icmp .gt 7, 3) := by decide +kernel
theorem dX5_isKind_9 : decode cX5_isKind 9 = .ok (.iconst 1, 1) := by decide +kernel
theorem dX5_isKind_10 : decode cX5_isKind 10 = .ok (.goto 4, 3) := by decide +kernel
theorem dX5_isKind_13 : decode cX5_isKind 13 = .ok (.iconst 0, 1) := by decide +kernel
theorem dX5_isKind_14 : decode cX5_isKind 14 = .ok (.ireturn, 1) := by decide +kernel
theorem dX5_isBend_0 : decode cX5_isBend 0 = .ok (.iload_n 0, 1) := by decide +kernel
theorem dX5_isBend_1 : decode cX5_isBend 1 = .ok (.ifCond .lt 13, 3) := by decide +kernel
theorem dX5_isBend_4 : decode cX5_isBend 4 = .ok (.iload_n 0, 1) := by decide +kernel
theorem dX5_isBend_5 : decode cX5_isBend 5 = .ok (.bipush 10, 2) := by decide +kernel
theorem dX5_isBend_7 : decode cX5_isBend 7 = .ok (.if_icmp .ge 7, 3) := by decide +kernel
theorem dX5_isBend_10 : decode cX5_isBend 10 = .ok (.iconst 1, 1) := by decide +kernel
theorem dX5_isBend_11 : decode cX5_isBend 11 = .ok (.goto 4, 3) := by decide +kernel
theorem dX5_isBend_14 : decode cX5_isBend 14 = .ok (.iconst 0, 1) := by decide +kernel
theorem dX5_isBend_15 : decode cX5_isBend 15 = .ok (.ireturn, 1) := by decide +kernel
theorem dX5_isWish_0 : decode cX5_isWish 0 = .ok (.iload_n 0, 1) := by decide +kernel
theorem dX5_isWish_1 : decode cX5_isWish 1 = .ok (.ifCond .lt 13, 3) := by decide +kernel
theorem dX5_isWish_4 : decode cX5_isWish 4 = .ok (.iload_n 0, 1) := by decide +kernel
theorem dX5_isWish_5 : decode cX5_isWish 5 = .ok (.bipush 6, 2) := by decide +kernel
theorem dX5_isWish_7 : decode cX5_isWish 7 = .ok (.if_icmp .ge 7, 3) := by decide +kernel
theorem dX5_isWish_10 : decode cX5_isWish 10 = .ok (.iconst 1, 1) := by decide +kernel
theorem dX5_isWish_11 : decode cX5_isWish 11 = .ok (.goto 4, 3) := by decide +kernel
theorem dX5_isWish_14 : decode cX5_isWish 14 = .ok (.iconst 0, 1) := by decide +kernel
theorem dX5_isWish_15 : decode cX5_isWish 15 = .ok (.ireturn, 1) := by decide +kernel
theorem dX5_isToldOfCentury_0 : decode cX5_isToldOfCentury 0 = .ok (.iload_n 0, 1) := by decide +kernel
theorem dX5_isToldOfCentury_1 : decode cX5_isToldOfCentury 1 = .ok (.ifCond .lt 8, 3) := by decide +kernel
theorem dX5_isToldOfCentury_4 : decode cX5_isToldOfCentury 4 = .ok (.iload_n 0, 1) := by decide +kernel
theorem dX5_isToldOfCentury_5 : decode cX5_isToldOfCentury 5 = .ok (.iconst 4, 1) := by decide +kernel
theorem dX5_isToldOfCentury_6 : decode cX5_isToldOfCentury 6 = .ok (.if_icmp .le 15, 3) := by decide +kernel
theorem dX5_isToldOfCentury_9 : decode cX5_isToldOfCentury 9 = .ok (.iload_n 0, 1) := by decide +kernel
theorem dX5_isToldOfCentury_10 : decode cX5_isToldOfCentury 10 = .ok (.bipush 10, 2) := by decide +kernel
theorem dX5_isToldOfCentury_12 : decode cX5_isToldOfCentury 12 = .ok (.if_icmp .lt 13, 3) := by decide +kernel
theorem dX5_isToldOfCentury_15 : decode cX5_isToldOfCentury 15 = .ok (.iload_n 0, 1) := by decide +kernel
theorem dX5_isToldOfCentury_16 : decode cX5_isToldOfCentury 16 = .ok (.bipush 19, 2) := by decide +kernel
theorem dX5_isToldOfCentury_18 : decode cX5_isToldOfCentury 18 = .ok (.if_icmp .ge 7, 3) := by decide +kernel
theorem dX5_isToldOfCentury_21 : decode cX5_isToldOfCentury 21 = .ok (.iconst 1, 1) := by decide +kernel
theorem dX5_isToldOfCentury_22 : decode cX5_isToldOfCentury 22 = .ok (.goto 4, 3) := by decide +kernel
theorem dX5_isToldOfCentury_25 : decode cX5_isToldOfCentury 25 = .ok (.iconst 0, 1) := by decide +kernel
theorem dX5_isToldOfCentury_26 : decode cX5_isToldOfCentury 26 = .ok (.ireturn, 1) := by decide +kernel
set_option maxRecDepth 20000 in
theorem ggX5_isAct_X5_isKind : GoodIn wsX5_isAct wsX5_isKind := goodIn_r _ [4] (by decide +kernel) (by decide +kernel)
set_option maxRecDepth 20000 in
theorem gX5_isAct_X5_isKind : GoodIn wsX5_isAct (va_wsS RX5 127 yX5_isKind wsX5_isKind) := goodIn_app (goodIn_of _ (by decide +kernel)) ggX5_isAct_X5_isKind
set_option maxRecDepth 20000 in
theorem ggX5_isAct_X5_isBend : GoodIn wsX5_isAct wsX5_isBend := goodIn_r _ [7] (by decide +kernel) (by decide +kernel)
set_option maxRecDepth 20000 in
theorem gX5_isAct_X5_isBend : GoodIn wsX5_isAct (va_wsS RX5 104 yX5_isBend wsX5_isBend) := goodIn_app (goodIn_of _ (by decide +kernel)) ggX5_isAct_X5_isBend
theorem dX5_isAct_0 : decode cX5_isAct 0 = .ok (.iload_n 1, 1) := by decide +kernel
theorem dX5_isAct_1 : decode cX5_isAct 1 = .ok (.invokestatic 127, 3) := by decide +kernel
theorem dX5_isAct_4 : decode cX5_isAct 4 = .ok (.ifCond .eq 8, 3) := by decide +kernel
theorem dX5_isAct_7 : decode cX5_isAct 7 = .ok (.iload_n 0, 1) := by decide +kernel
theorem dX5_isAct_8 : decode cX5_isAct 8 = .ok (.invokestatic 104, 3) := by decide +kernel
theorem dX5_isAct_11 : decode cX5_isAct 11 = .ok (.ireturn, 1) := by decide +kernel
theorem dX5_isAct_12 : decode cX5_isAct 12 = .ok (.iload_n 1, 1) := by decide +kernel
theorem dX5_isAct_13 : decode cX5_isAct 13 = .ok (.iconst 3, 1) := by decide +kernel
theorem dX5_isAct_14 : decode cX5_isAct 14 = .ok (.if_icmp .ne 19, 3) := by decide +kernel
theorem dX5_isAct_17 : decode cX5_isAct 17 = .ok (.iload_n 0, 1) := by decide +kernel
theorem dX5_isAct_18 : decode cX5_isAct 18 = .ok (.ifCond .lt 13, 3) := by decide +kernel
theorem dX5_isAct_21 : decode cX5_isAct 21 = .ok (.iload_n 0, 1) := by decide +kernel
theorem dX5_isAct_22 : decode cX5_isAct 22 = .ok (.bipush 99, 2) := by decide +kernel
theorem dX5_isAct_24 : decode cX5_isAct 24 = .ok (.if_icmp .gt 7, 3) := by decide +kernel
theorem dX5_isAct_27 : decode cX5_isAct 27 = .ok (.iconst 1, 1) := by decide +kernel
theorem dX5_isAct_28 : decode cX5_isAct 28 = .ok (.goto 4, 3) := by decide +kernel
theorem dX5_isAct_31 : decode cX5_isAct 31 = .ok (.iconst 0, 1) := by decide +kernel
theorem dX5_isAct_32 : decode cX5_isAct 32 = .ok (.ireturn, 1) := by decide +kernel
theorem dX5_isAct_33 : decode cX5_isAct 33 = .ok (.iload_n 1, 1) := by decide +kernel
theorem dX5_isAct_34 : decode cX5_isAct 34 = .ok (.iconst 4, 1) := by decide +kernel
theorem dX5_isAct_35 : decode cX5_isAct 35 = .ok (.if_icmp .ne 11, 3) := by decide +kernel
theorem dX5_isAct_38 : decode cX5_isAct 38 = .ok (.iload_n 0, 1) := by decide +kernel
theorem dX5_isAct_39 : decode cX5_isAct 39 = .ok (.ifCond .ne 7, 3) := by decide +kernel
theorem dX5_isAct_42 : decode cX5_isAct 42 = .ok (.iconst 1, 1) := by decide +kernel
theorem dX5_isAct_43 : decode cX5_isAct 43 = .ok (.goto 4, 3) := by decide +kernel
theorem dX5_isAct_46 : decode cX5_isAct 46 = .ok (.iconst 0, 1) := by decide +kernel
theorem dX5_isAct_47 : decode cX5_isAct 47 = .ok (.ireturn, 1) := by decide +kernel
theorem dX5_keyNumber_0 : decode cX5_keyNumber 0 = .ok (.bipush 10, 2) := by decide +kernel
theorem dX5_keyNumber_2 : decode cX5_keyNumber 2 = .ok (.iload_n 0, 1) := by decide +kernel
theorem dX5_keyNumber_3 : decode cX5_keyNumber 3 = .ok (.imul, 1) := by decide +kernel
theorem dX5_keyNumber_4 : decode cX5_keyNumber 4 = .ok (.iload_n 1, 1) := by decide +kernel
theorem dX5_keyNumber_5 : decode cX5_keyNumber 5 = .ok (.iadd, 1) := by decide +kernel
theorem dX5_keyNumber_6 : decode cX5_keyNumber 6 = .ok (.ireturn, 1) := by decide +kernel
theorem dX5_turnOf_0 : decode cX5_turnOf 0 = .ok (.iload_n 0, 1) := by decide +kernel
theorem dX5_turnOf_1 : decode cX5_turnOf 1 = .ok (.ifCond .ne 5, 3) := by decide +kernel
theorem dX5_turnOf_4 : decode cX5_turnOf 4 = .ok (.iload_n 1, 1) := by decide +kernel
theorem dX5_turnOf_5 : decode cX5_turnOf 5 = .ok (.ireturn, 1) := by decide +kernel
theorem dX5_turnOf_6 : decode cX5_turnOf 6 = .ok (.iload_n 0, 1) := by decide +kernel
theorem dX5_turnOf_7 : decode cX5_turnOf 7 = .ok (.iconst 1, 1) := by decide +kernel
theorem dX5_turnOf_8 : decode cX5_turnOf 8 = .ok (.if_icmp .ne 9, 3) := by decide +kernel
theorem dX5_turnOf_11 : decode cX5_turnOf 11 = .ok (.iload_n 1, 1) := by decide +kernel
theorem dX5_turnOf_12 : decode cX5_turnOf 12 = .ok (.iconst 1, 1) := by decide +kernel
theorem dX5_turnOf_13 : decode cX5_turnOf 13 = .ok (.iadd, 1) := by decide +kernel
theorem dX5_turnOf_14 : decode cX5_turnOf 14 = .ok (.goto 8, 3) := by decide +kernel
theorem dX5_turnOf_17 : decode cX5_turnOf 17 = .ok (.iconst 2, 1) := by decide +kernel
theorem dX5_turnOf_18 : decode cX5_turnOf 18 = .ok (.iload_n 1, 1) := by decide +kernel
theorem dX5_turnOf_19 : decode cX5_turnOf 19 = .ok (.iconst 1, 1) := by decide +kernel
theorem dX5_turnOf_20 : decode cX5_turnOf 20 = .ok (.iadd, 1) := by decide +kernel
theorem dX5_turnOf_21 : decode cX5_turnOf 21 = .ok (.imul, 1) := by decide +kernel
theorem dX5_turnOf_22 : decode cX5_turnOf 22 = .ok (.ireturn, 1) := by decide +kernel
theorem dX5_wishOf_0 : decode cX5_wishOf 0 = .ok (.iload_n 0, 1) := by decide +kernel
theorem dX5_wishOf_1 : decode cX5_wishOf 1 = .ok (.iload_n 1, 1) := by decide +kernel
theorem dX5_wishOf_2 : decode cX5_wishOf 2 = .ok (.imul, 1) := by decide +kernel
theorem dX5_wishOf_3 : decode cX5_wishOf 3 = .ok (.iload_n 2, 1) := by decide +kernel
theorem dX5_wishOf_4 : decode cX5_wishOf 4 = .ok (.iload_n 3, 1) := by decide +kernel
theorem dX5_wishOf_5 : decode cX5_wishOf 5 = .ok (.imul, 1) := by decide +kernel
theorem dX5_wishOf_6 : decode cX5_wishOf 6 = .ok (.iadd, 1) := by decide +kernel
theorem dX5_wishOf_7 : decode cX5_wishOf 7 = .ok (.bipush 6, 2) := by decide +kernel
theorem dX5_wishOf_9 : decode cX5_wishOf 9 = .ok (.irem, 1) := by decide +kernel
theorem dX5_wishOf_10 : decode cX5_wishOf 10 = .ok (.ireturn, 1) := by decide +kernel
theorem dX5_greatestShared_0 : decode cX5_greatestShared 0 = .ok (.iload_n 1, 1) := by decide +kernel
theorem dX5_greatestShared_1 : decode cX5_greatestShared 1 = .ok (.istore_n 2, 1) := by decide +kernel
theorem dX5_greatestShared_2 : decode cX5_greatestShared 2 = .ok (.iload_n 2, 1) := by decide +kernel
theorem dX5_greatestShared_3 : decode cX5_greatestShared 3 = .ok (.iconst 1, 1) := by decide +kernel
theorem dX5_greatestShared_4 : decode cX5_greatestShared 4 = .ok (.if_icmp .le 23, 3) := by decide +kernel
theorem dX5_greatestShared_7 : decode cX5_greatestShared 7 = .ok (.iload_n 0, 1) := by decide +kernel
theorem dX5_greatestShared_8 : decode cX5_greatestShared 8 = .ok (.iload_n 2, 1) := by decide +kernel
theorem dX5_greatestShared_9 : decode cX5_greatestShared 9 = .ok (.irem, 1) := by decide +kernel
theorem dX5_greatestShared_10 : decode cX5_greatestShared 10 = .ok (.ifCond .ne 11, 3) := by decide +kernel
theorem dX5_greatestShared_13 : decode cX5_greatestShared 13 = .ok (.iload_n 1, 1) := by decide +kernel
theorem dX5_greatestShared_14 : decode cX5_greatestShared 14 = .ok (.iload_n 2, 1) := by decide +kernel
theorem dX5_greatestShared_15 : decode cX5_greatestShared 15 = .ok (.irem, 1) := by decide +kernel
theorem dX5_greatestShared_16 : decode cX5_greatestShared 16 = .ok (.ifCond .ne 5, 3) := by decide +kernel
theorem dX5_greatestShared_19 : decode cX5_greatestShared 19 = .ok (.iload_n 2, 1) := by decide +kernel
theorem dX5_greatestShared_20 : decode cX5_greatestShared 20 = .ok (.ireturn, 1) := by decide +kernel
theorem dX5_greatestShared_21 : decode cX5_greatestShared 21 = .ok (.iinc 2 (-1), 3) := by decide +kernel
theorem dX5_greatestShared_24 : decode cX5_greatestShared 24 = .ok (.goto (-22), 3) := by decide +kernel
theorem dX5_greatestShared_27 : decode cX5_greatestShared 27 = .ok (.iconst 1, 1) := by decide +kernel
theorem dX5_greatestShared_28 : decode cX5_greatestShared 28 = .ok (.ireturn, 1) := by decide +kernel
set_option maxRecDepth 20000 in
theorem ggX5_firstFault_X3_at : GoodIn wsX5_firstFault wsX3_at := goodIn_r _ [5, 6, 7, 8, 9, 4, 10, 11, 16, 17, 18] (by decide +kernel) (by decide +kernel)
set_option maxRecDepth 20000 in
theorem gX5_firstFault_X3_at : GoodIn wsX5_firstFault (wsV RX5 143 RX3 yX3_at wsX3_at) := goodIn_app (goodIn_of _ (by decide +kernel)) ggX5_firstFault_X3_at
set_option maxRecDepth 20000 in
theorem ggX5_firstFault_X5_goesOn : GoodIn wsX5_firstFault wsX5_goesOn := goodIn_r _ [15] (by decide +kernel) (by decide +kernel)
set_option maxRecDepth 20000 in
theorem gX5_firstFault_X5_goesOn : GoodIn wsX5_firstFault (va_wsS RX5 228 yX5_goesOn wsX5_goesOn) := goodIn_app (goodIn_of _ (by decide +kernel)) ggX5_firstFault_X5_goesOn
theorem dX5_firstFault_0 : decode cX5_firstFault 0 = .ok (.iconst 0, 1) := by decide +kernel
theorem dX5_firstFault_1 : decode cX5_firstFault 1 = .ok (.istore_n 3, 1) := by decide +kernel
theorem dX5_firstFault_2 : decode cX5_firstFault 2 = .ok (.iload_n 3, 1) := by decide +kernel
theorem dX5_firstFault_3 : decode cX5_firstFault 3 = .ok (.iload_n 2, 1) := by decide +kernel
theorem dX5_firstFault_4 : decode cX5_firstFault 4 = .ok (.if_icmp .ge 25, 3) := by decide +kernel
theorem dX5_firstFault_7 : decode cX5_firstFault 7 = .ok (.iload_n 3, 1) := by decide +kernel
theorem dX5_firstFault_8 : decode cX5_firstFault 8 = .ok (.aload_n 0, 1) := by decide +kernel
theorem dX5_firstFault_9 : decode cX5_firstFault 9 = .ok (.iload_n 1, 1) := by decide +kernel
theorem dX5_firstFault_10 : decode cX5_firstFault 10 = .ok (.iload_n 3, 1) := by decide +kernel
theorem dX5_firstFault_11 : decode cX5_firstFault 11 = .ok (.iadd, 1) := by decide +kernel
theorem dX5_firstFault_12 : decode cX5_firstFault 12 = .ok (.invokevirtual 143, 3) := by decide +kernel
theorem dX5_firstFault_15 : decode cX5_firstFault 15 = .ok (.invokestatic 228, 3) := by decide +kernel
theorem dX5_firstFault_18 : decode cX5_firstFault 18 = .ok (.ifCond .ne 5, 3) := by decide +kernel
theorem dX5_firstFault_21 : decode cX5_firstFault 21 = .ok (.iload_n 3, 1) := by decide +kernel
theorem dX5_firstFault_22 : decode cX5_firstFault 22 = .ok (.ireturn, 1) := by decide +kernel
theorem dX5_firstFault_23 : decode cX5_firstFault 23 = .ok (.iinc 3 1, 3) := by decide +kernel
theorem dX5_firstFault_26 : decode cX5_firstFault 26 = .ok (.goto (-24), 3) := by decide +kernel
theorem dX5_firstFault_29 : decode cX5_firstFault 29 = .ok (.iload_n 2, 1) := by decide +kernel
theorem dX5_firstFault_30 : decode cX5_firstFault 30 = .ok (.bipush 7, 2) := by decide +kernel
theorem dX5_firstFault_32 : decode cX5_firstFault 32 = .ok (.if_icmp .lt 15, 3) := by decide +kernel
theorem dX5_firstFault_35 : decode cX5_firstFault 35 = .ok (.iload_n 2, 1) := by decide +kernel
theorem dX5_firstFault_36 : decode cX5_firstFault 36 = .ok (.iconst 3, 1) := by decide +kernel
theorem dX5_firstFault_37 : decode cX5_firstFault 37 = .ok (.isub, 1) := by decide +kernel
theorem dX5_firstFault_38 : decode cX5_firstFault 38 = .ok (.iconst 4, 1) := by decide +kernel
theorem dX5_firstFault_39 : decode cX5_firstFault 39 = .ok (.irem, 1) := by decide +kernel
theorem dX5_firstFault_40 : decode cX5_firstFault 40 = .ok (.ifCond .ne 7, 3) := by decide +kernel
theorem dX5_firstFault_43 : decode cX5_firstFault 43 = .ok (.iconst 1, 1) := by decide +kernel
theorem dX5_firstFault_44 : decode cX5_firstFault 44 = .ok (.goto 4, 3) := by decide +kernel
theorem dX5_firstFault_47 : decode cX5_firstFault 47 = .ok (.iconst 0, 1) := by decide +kernel
theorem dX5_firstFault_48 : decode cX5_firstFault 48 = .ok (.istore_n 3, 1) := by decide +kernel
theorem dX5_firstFault_49 : decode cX5_firstFault 49 = .ok (.iload_n 3, 1) := by decide +kernel
theorem dX5_firstFault_50 : decode cX5_firstFault 50 = .ok (.ifCond .eq 8, 3) := by decide +kernel
theorem dX5_firstFault_53 : decode cX5_firstFault 53 = .ok (.bipush (-9), 2) := by decide +kernel
theorem dX5_firstFault_55 : decode cX5_firstFault 55 = .ok (.goto 4, 3) := by decide +kernel
theorem dX5_firstFault_58 : decode cX5_firstFault 58 = .ok (.iload_n 2, 1) := by decide +kernel
theorem dX5_firstFault_59 : decode cX5_firstFault 59 = .ok (.ireturn, 1) := by decide +kernel
theorem dX5_goesOn_0 : decode cX5_goesOn 0 = .ok (.iload_n 0, 1) := by decide +kernel
theorem dX5_goesOn_1 : decode cX5_goesOn 1 = .ok (.ifCond .ne 15, 3) := by decide +kernel
theorem dX5_goesOn_4 : decode cX5_goesOn 4 = .ok (.iload_n 1, 1) := by decide +kernel
theorem dX5_goesOn_5 : decode cX5_goesOn 5 = .ok (.bipush 119, 2) := by decide +kernel
theorem dX5_goesOn_7 : decode cX5_goesOn 7 = .ok (.if_icmp .ne 7, 3) := by decide +kernel
theorem dX5_goesOn_10 : decode cX5_goesOn 10 = .ok (.iconst 1, 1) := by decide +kernel
theorem dX5_goesOn_11 : decode cX5_goesOn 11 = .ok (.goto 4, 3) := by decide +kernel
theorem dX5_goesOn_14 : decode cX5_goesOn 14 = .ok (.iconst 0, 1) := by decide +kernel
theorem dX5_goesOn_15 : decode cX5_goesOn 15 = .ok (.ireturn, 1) := by decide +kernel
theorem dX5_goesOn_16 : decode cX5_goesOn 16 = .ok (.iload_n 0, 1) := by decide +kernel
theorem dX5_goesOn_17 : decode cX5_goesOn 17 = .ok (.iconst 1, 1) := by decide +kernel
theorem dX5_goesOn_18 : decode cX5_goesOn 18 = .ok (.if_icmp .ne 21, 3) := by decide +kernel
theorem dX5_goesOn_21 : decode cX5_goesOn 21 = .ok (.iload_n 1, 1) := by decide +kernel
theorem dX5_goesOn_22 : decode cX5_goesOn 22 = .ok (.bipush 49, 2) := by decide +kernel
theorem dX5_goesOn_24 : decode cX5_goesOn 24 = .ok (.if_icmp .lt 13, 3) := by decide +kernel
theorem dX5_goesOn_27 : decode cX5_goesOn 27 = .ok (.iload_n 1, 1) := by decide +kernel
theorem dX5_goesOn_28 : decode cX5_goesOn 28 = .ok (.bipush 53, 2) := by decide +kernel
theorem dX5_goesOn_30 : decode cX5_goesOn 30 = .ok (.if_icmp .gt 7, 3) := by decide +kernel
theorem dX5_goesOn_33 : decode cX5_goesOn 33 = .ok (.iconst 1, 1) := by decide +kernel
theorem dX5_goesOn_34 : decode cX5_goesOn 34 = .ok (.goto 4, 3) := by decide +kernel
theorem dX5_goesOn_37 : decode cX5_goesOn 37 = .ok (.iconst 0, 1) := by decide +kernel
theorem dX5_goesOn_38 : decode cX5_goesOn 38 = .ok (.ireturn, 1) := by decide +kernel
theorem dX5_goesOn_39 : decode cX5_goesOn 39 = .ok (.iload_n 0, 1) := by decide +kernel
theorem dX5_goesOn_40 : decode cX5_goesOn 40 = .ok (.iconst 2, 1) := by decide +kernel
theorem dX5_goesOn_41 : decode cX5_goesOn 41 = .ok (.if_icmp .ne 21, 3) := by decide +kernel
theorem dX5_goesOn_44 : decode cX5_goesOn 44 = .ok (.iload_n 1, 1) := by decide +kernel
theorem dX5_goesOn_45 : decode cX5_goesOn 45 = .ok (.bipush 48, 2) := by decide +kernel
theorem dX5_goesOn_47 : decode cX5_goesOn 47 = .ok (.if_icmp .lt 13, 3) := by decide +kernel
theorem dX5_goesOn_50 : decode cX5_goesOn 50 = .ok (.iload_n 1, 1) := by decide +kernel
theorem dX5_goesOn_51 : decode cX5_goesOn 51 = .ok (.bipush 53, 2) := by decide +kernel
theorem dX5_goesOn_53 : decode cX5_goesOn 53 = .ok (.if_icmp .gt 7, 3) := by decide +kernel
theorem dX5_goesOn_56 : decode cX5_goesOn 56 = .ok (.iconst 1, 1) := by decide +kernel
theorem dX5_goesOn_57 : decode cX5_goesOn 57 = .ok (.goto 4, 3) := by decide +kernel
theorem dX5_goesOn_60 : decode cX5_goesOn 60 = .ok (.iconst 0, 1) := by decide +kernel
theorem dX5_goesOn_61 : decode cX5_goesOn 61 = .ok (.ireturn, 1) := by decide +kernel
theorem dX5_goesOn_62 : decode cX5_goesOn 62 = .ok (.iload_n 0, 1) := by decide +kernel
theorem dX5_goesOn_63 : decode cX5_goesOn 63 = .ok (.bipush 39, 2) := by decide +kernel
theorem dX5_goesOn_65 : decode cX5_goesOn 65 = .ok (.if_icmp .lt 5, 3) := by decide +kernel
theorem dX5_goesOn_68 : decode cX5_goesOn 68 = .ok (.iconst 0, 1) := by decide +kernel
theorem dX5_goesOn_69 : decode cX5_goesOn 69 = .ok (.ireturn, 1) := by decide +kernel
theorem dX5_goesOn_70 : decode cX5_goesOn 70 = .ok (.iload_n 0, 1) := by decide +kernel
theorem dX5_goesOn_71 : decode cX5_goesOn 71 = .ok (.iconst 3, 1) := by decide +kernel
theorem dX5_goesOn_72 : decode cX5_goesOn 72 = .ok (.isub, 1) := by decide +kernel
theorem dX5_goesOn_73 : decode cX5_goesOn 73 = .ok (.iconst 4, 1) := by decide +kernel
theorem dX5_goesOn_74 : decode cX5_goesOn 74 = .ok (.irem, 1) := by decide +kernel
theorem dX5_goesOn_75 : decode cX5_goesOn 75 = .ok (.lookupswitch 61 #[(0, 25), (1, 37)], 25) := by decide +kernel
theorem dX5_goesOn_100 : decode cX5_goesOn 100 = .ok (.iload_n 1, 1) := by decide +kernel
theorem dX5_goesOn_101 : decode cX5_goesOn 101 = .ok (.bipush 59, 2) := by decide +kernel
theorem dX5_goesOn_103 : decode cX5_goesOn 103 = .ok (.if_icmp .ne 7, 3) := by decide +kernel
theorem dX5_goesOn_106 : decode cX5_goesOn 106 = .ok (.iconst 1, 1) := by decide +kernel
theorem dX5_goesOn_107 : decode cX5_goesOn 107 = .ok (.goto 4, 3) := by decide +kernel
theorem dX5_goesOn_110 : decode cX5_goesOn 110 = .ok (.iconst 0, 1) := by decide +kernel
theorem dX5_goesOn_111 : decode cX5_goesOn 111 = .ok (.ireturn, 1) := by decide +kernel
theorem dX5_goesOn_112 : decode cX5_goesOn 112 = .ok (.iload_n 1, 1) := by decide +kernel
theorem dX5_goesOn_113 : decode cX5_goesOn 113 = .ok (.bipush 112, 2) := by decide +kernel
theorem dX5_goesOn_115 : decode cX5_goesOn 115 = .ok (.if_icmp .eq 15, 3) := by decide +kernel
theorem dX5_goesOn_118 : decode cX5_goesOn 118 = .ok (.iload_n 1, 1) := by decide +kernel
theorem dX5_goesOn_119 : decode cX5_goesOn 119 = .ok (.bipush 99, 2) := by decide +kernel
theorem dX5_goesOn_121 : decode cX5_goesOn 121 = .ok (.if_icmp .eq 9, 3) := by decide +kernel
theorem dX5_goesOn_124 : decode cX5_goesOn 124 = .ok (.iload_n 1, 1) := by decide +kernel
theorem dX5_goesOn_125 : decode cX5_goesOn 125 = .ok (.bipush 100, 2) := by decide +kernel
theorem dX5_goesOn_127 : decode cX5_goesOn 127 = .ok (.if_icmp .ne 7, 3) := by decide +kernel
theorem dX5_goesOn_130 : decode cX5_goesOn 130 = .ok (.iconst 1, 1) := by decide +kernel
theorem dX5_goesOn_131 : decode cX5_goesOn 131 = .ok (.goto 4, 3) := by decide +kernel
theorem dX5_goesOn_134 : decode cX5_goesOn 134 = .ok (.iconst 0, 1) := by decide +kernel
theorem dX5_goesOn_135 : decode cX5_goesOn 135 = .ok (.ireturn, 1) := by decide +kernel
theorem dX5_goesOn_136 : decode cX5_goesOn 136 = .ok (.iload_n 1, 1) := by decide +kernel
theorem dX5_goesOn_137 : decode cX5_goesOn 137 = .ok (.bipush 48, 2) := by decide +kernel
theorem dX5_goesOn_139 : decode cX5_goesOn 139 = .ok (.if_icmp .lt 13, 3) := by decide +kernel
theorem dX5_goesOn_142 : decode cX5_goesOn 142 = .ok (.iload_n 1, 1) := by decide +kernel
theorem dX5_goesOn_143 : decode cX5_goesOn 143 = .ok (.bipush 57, 2) := by decide +kernel
theorem dX5_goesOn_145 : decode cX5_goesOn 145 = .ok (.if_icmp .gt 7, 3) := by decide +kernel
theorem dX5_goesOn_148 : decode cX5_goesOn 148 = .ok (.iconst 1, 1) := by decide +kernel
theorem dX5_goesOn_149 : decode cX5_goesOn 149 = .ok (.goto 4, 3) := by decide +kernel
theorem dX5_goesOn_152 : decode cX5_goesOn 152 = .ok (.iconst 0, 1) := by decide +kernel
theorem dX5_goesOn_153 : decode cX5_goesOn 153 = .ok (.ireturn, 1) := by decide +kernel
theorem dX5_beginBody_0 : decode cX5_beginBody 0 = .ok (.aload_n 0, 1) := by decide +kernel
theorem dX5_beginBody_1 : decode cX5_beginBody 1 = .ok (.bipush 31, 2) := by decide +kernel
theorem dX5_beginBody_3 : decode cX5_beginBody 3 = .ok (.aload_n 0, 1) := by decide +kernel
theorem dX5_beginBody_4 : decode cX5_beginBody 4 = .ok (.getfield 225, 3) := by decide +kernel
theorem dX5_beginBody_7 : decode cX5_beginBody 7 = .ok (.imul, 1) := by decide +kernel
theorem dX5_beginBody_8 : decode cX5_beginBody 8 = .ok (.iload_n 1, 1) := by decide +kernel
theorem dX5_beginBody_9 : decode cX5_beginBody 9 = .ok (.iadd, 1) := by decide +kernel
theorem dX5_beginBody_10 : decode cX5_beginBody 10 = .ok (.putfield 225, 3) := by decide +kernel
theorem dX5_beginBody_13 : decode cX5_beginBody 13 = .ok (.return_, 1) := by decide +kernel
set_option maxRecDepth 20000 in
theorem ggX5_tellPlain_X5_beginBody : GoodIn wsX5_tellPlain wsX5_beginBody := goodIn_r _ [5, 6, 7, 8, 9, 10, 11, 12, 13] (by decide +kernel) (by decide +kernel)
set_option maxRecDepth 20000 in
theorem gX5_tellPlain_X5_beginBody : GoodIn wsX5_tellPlain (wsV RX5 221 RX5 yX5_beginBody wsX5_beginBody) := goodIn_app (goodIn_of _ (by decide +kernel)) ggX5_tellPlain_X5_beginBody
theorem dX5_tellPlain_0 : decode cX5_tellPlain 0 = .ok (.aload_n 0, 1) := by decide +kernel
theorem dX5_tellPlain_1 : decode cX5_tellPlain 1 = .ok (.iconst 1, 1) := by decide +kernel
theorem dX5_tellPlain_2 : decode cX5_tellPlain 2 = .ok (.invokevirtual 221, 3) := by decide +kernel
theorem dX5_tellPlain_5 : decode cX5_tellPlain 5 = .ok (.iload_n 1, 1) := by decide +kernel
theorem dX5_tellPlain_6 : decode cX5_tellPlain 6 = .ok (.ireturn, 1) := by decide +kernel
set_option maxRecDepth 20000 in
theorem ggX5_tellCrook_X5_beginBody : GoodIn wsX5_tellCrook wsX5_beginBody := goodIn_r _ [5, 6, 11, 12, 13, 14, 15, 16, 17] (by decide +kernel) (by decide +kernel)
set_option maxRecDepth 20000 in
theorem gX5_tellCrook_X5_beginBody : GoodIn wsX5_tellCrook (wsV RX5 221 RX5 yX5_beginBody wsX5_beginBody) := goodIn_app (goodIn_of _ (by decide +kernel)) ggX5_tellCrook_X5_beginBody
set_option maxRecDepth 20000 in
theorem ggX5_tellCrook_X5_tellPlain : GoodIn wsX5_tellCrook wsX5_tellPlain := goodIn_r _ [10, 1, 2, 3, 4, 5, 6, 11, 12, 13, 14, 15, 16, 17] (by decide +kernel) (by decide +kernel)
set_option maxRecDepth 20000 in
theorem gX5_tellCrook_X5_tellPlain : GoodIn wsX5_tellCrook (wsV RX5 212 RX5 yX5_tellPlain wsX5_tellPlain) := goodIn_app (goodIn_of _ (by decide +kernel)) ggX5_tellCrook_X5_tellPlain
theorem dX5_tellCrook_0 : decode cX5_tellCrook 0 = .ok (.aload_n 0, 1) := by decide +kernel
theorem dX5_tellCrook_1 : decode cX5_tellCrook 1 = .ok (.iconst 2, 1) := by decide +kernel
theorem dX5_tellCrook_2 : decode cX5_tellCrook 2 = .ok (.invokevirtual 221, 3) := by decide +kernel
theorem dX5_tellCrook_5 : decode cX5_tellCrook 5 = .ok (.aload_n 0, 1) := by decide +kernel
theorem dX5_tellCrook_6 : decode cX5_tellCrook 6 = .ok (.iload_n 1, 1) := by decide +kernel
theorem dX5_tellCrook_7 : decode cX5_tellCrook 7 = .ok (.invokevirtual 212, 3) := by decide +kernel
theorem dX5_tellCrook_10 : decode cX5_tellCrook 10 = .ok (.bipush 100, 2) := by decide +kernel
theorem dX5_tellCrook_12 : decode cX5_tellCrook 12 = .ok (.iadd, 1) := by decide +kernel
theorem dX5_tellCrook_13 : decode cX5_tellCrook 13 = .ok (.ireturn, 1) := by decide +kernel
set_option maxRecDepth 20000 in
theorem ggX5_tellDouble_X5_beginBody : GoodIn wsX5_tellDouble wsX5_beginBody := goodIn_r _ [5, 6, 15, 16, 17, 18, 19, 20, 21] (by decide +kernel) (by decide +kernel)
set_option maxRecDepth 20000 in
theorem gX5_tellDouble_X5_beginBody : GoodIn wsX5_tellDouble (wsV RX5 221 RX5 yX5_beginBody wsX5_beginBody) := goodIn_app (goodIn_of _ (by decide +kernel)) ggX5_tellDouble_X5_beginBody
set_option maxRecDepth 20000 in
theorem ggX5_tellDouble_X5_tellCrook : GoodIn wsX5_tellDouble wsX5_tellCrook := goodIn_r _ [10, 1, 2, 3, 4, 5, 6, 11, 12, 13, 14, 15, 16, 17, 18, 19, 20, 21] (by decide +kernel) (by decide +kernel)
set_option maxRecDepth 20000 in
theorem gX5_tellDouble_X5_tellCrook : GoodIn wsX5_tellDouble (wsV RX5 215 RX5 yX5_tellCrook wsX5_tellCrook) := goodIn_app (goodIn_of _ (by decide +kernel)) ggX5_tellDouble_X5_tellCrook
set_option maxRecDepth 20000 in
theorem ggX5_tellDouble_X5_tellPlain : GoodIn wsX5_tellDouble wsX5_tellPlain := goodIn_r _ [14, 1, 2, 3, 4, 5, 6, 15, 16, 17, 18, 19, 20, 21] (by decide +kernel) (by decide +kernel)
set_option maxRecDepth 20000 in
theorem gX5_tellDouble_X5_tellPlain : GoodIn wsX5_tellDouble (wsV RX5 212 RX5 yX5_tellPlain wsX5_tellPlain) := goodIn_app (goodIn_of _ (by decide +kernel)) ggX5_tellDouble_X5_tellPlain
theorem dX5_tellDouble_0 : decode cX5_tellDouble 0 = .ok (.aload_n 0, 1) := by decide +kernel
theorem dX5_tellDouble_1 : decode cX5_tellDouble 1 = .ok (.iconst 3, 1) := by decide +kernel
theorem dX5_tellDouble_2 : decode cX5_tellDouble 2 = .ok (.invokevirtual 221, 3) := by decide +kernel
theorem dX5_tellDouble_5 : decode cX5_tellDouble 5 = .ok (.aload_n 0, 1) := by decide +kernel
theorem dX5_tellDouble_6 : decode cX5_tellDouble 6 = .ok (.iload_n 1, 1) := by decide +kernel
theorem dX5_tellDouble_7 : decode cX5_tellDouble 7 = .ok (.invokevirtual 215, 3) := by decide +kernel
theorem dX5_tellDouble_10 : decode cX5_tellDouble 10 = .ok (.istore_n 2, 1) := by decide +kernel
theorem dX5_tellDouble_11 : decode cX5_tellDouble 11 = .ok (.iload_n 2, 1) := by decide +kernel
theorem dX5_tellDouble_12 : decode cX5_tellDouble 12 = .ok (.aload_n 0, 1) := by decide +kernel
theorem dX5_tellDouble_13 : decode cX5_tellDouble 13 = .ok (.iload_n 1, 1) := by decide +kernel
theorem dX5_tellDouble_14 : decode cX5_tellDouble 14 = .ok (.invokevirtual 212, 3) := by decide +kernel
theorem dX5_tellDouble_17 : decode cX5_tellDouble 17 = .ok (.iadd, 1) := by decide +kernel
theorem dX5_tellDouble_18 : decode cX5_tellDouble 18 = .ok (.ireturn, 1) := by decide +kernel
end
section
/-! base: the model object's fields, call words of every method, small facts -/
def fM (fl pn sl dr yr ra rp rs rd ry pk yk rg tr : Int32) (q : Nat → Nat) : List Value := [.int fl, .int pn, .int sl, .int dr, .int yr, .ref (q 5), .ref (q 6), .ref (q 7), .int ra, .int rp, .int rs, .int rd, .int ry, .ref (q 13), .ref (q 14), .ref (q 15), .int pk, .int yk, .ref (q 18), .ref (q 19), .ref (q 20), .ref (q 21), .int rg, .ref (q 23), .ref (q 24), .ref (q 25), .ref (q 26), .ref (q 27), .ref (q 28), .int tr]
theorem hdS_X0_play : yX0_play.cls ≠ "java/lang/invoke/MethodHandle" ∧ yX0_play.cls ≠ "java/lang/invoke/VarHandle" ∧ (parseMethodDescriptor yX0_play.desc).map (fun d => d.parameters.length) = some 4 := by decide +kernel
theorem hdV_X0_play : yX0_play.cls = RX0 ∧ yX0_play.cls ≠ "java/lang/invoke/MethodHandle" ∧ yX0_play.cls ≠ "java/lang/invoke/VarHandle" ∧ (parseMethodDescriptor yX0_play.desc).map (fun d => d.parameters.length) = some 4 := ⟨rfl, hdS_X0_play⟩
theorem hdS_X0_canDo : yX0_canDo.cls ≠ "java/lang/invoke/MethodHandle" ∧ yX0_canDo.cls ≠ "java/lang/invoke/VarHandle" ∧ (parseMethodDescriptor yX0_canDo.desc).map (fun d => d.parameters.length) = some 2 := by decide +kernel
theorem hdV_X0_canDo : yX0_canDo.cls = RX0 ∧ yX0_canDo.cls ≠ "java/lang/invoke/MethodHandle" ∧ yX0_canDo.cls ≠ "java/lang/invoke/VarHandle" ∧ (parseMethodDescriptor yX0_canDo.desc).map (fun d => d.parameters.length) = some 2 := ⟨rfl, hdS_X0_canDo⟩
theorem hdS_X0_told : yX0_told.cls ≠ "java/lang/invoke/MethodHandle" ∧ yX0_told.cls ≠ "java/lang/invoke/VarHandle" ∧ (parseMethodDescriptor yX0_told.desc).map (fun d => d.parameters.length) = some 1 := by decide +kernel
theorem hdV_X0_told : yX0_told.cls = RX0 ∧ yX0_told.cls ≠ "java/lang/invoke/MethodHandle" ∧ yX0_told.cls ≠ "java/lang/invoke/VarHandle" ∧ (parseMethodDescriptor yX0_told.desc).map (fun d => d.parameters.length) = some 1 := ⟨rfl, hdS_X0_told⟩
theorem hdS_X0_allWishes : yX0_allWishes.cls ≠ "java/lang/invoke/MethodHandle" ∧ yX0_allWishes.cls ≠ "java/lang/invoke/VarHandle" ∧ (parseMethodDescriptor yX0_allWishes.desc).map (fun d => d.parameters.length) = some 0 := by decide +kernel
theorem hdV_X0_allWishes : yX0_allWishes.cls = RX0 ∧ yX0_allWishes.cls ≠ "java/lang/invoke/MethodHandle" ∧ yX0_allWishes.cls ≠ "java/lang/invoke/VarHandle" ∧ (parseMethodDescriptor yX0_allWishes.desc).map (fun d => d.parameters.length) = some 0 := ⟨rfl, hdS_X0_allWishes⟩
theorem hdS_X1_ask : yX1_ask.cls ≠ "java/lang/invoke/MethodHandle" ∧ yX1_ask.cls ≠ "java/lang/invoke/VarHandle" ∧ (parseMethodDescriptor yX1_ask.desc).map (fun d => d.parameters.length) = some 3 := by decide +kernel
theorem hdV_X1_ask : yX1_ask.cls = RX1 ∧ yX1_ask.cls ≠ "java/lang/invoke/MethodHandle" ∧ yX1_ask.cls ≠ "java/lang/invoke/VarHandle" ∧ (parseMethodDescriptor yX1_ask.desc).map (fun d => d.parameters.length) = some 3 := ⟨rfl, hdS_X1_ask⟩
theorem hdS_X1_countWays : yX1_countWays.cls ≠ "java/lang/invoke/MethodHandle" ∧ yX1_countWays.cls ≠ "java/lang/invoke/VarHandle" ∧ (parseMethodDescriptor yX1_countWays.desc).map (fun d => d.parameters.length) = some 0 := by decide +kernel
theorem hdV_X1_countWays : yX1_countWays.cls = RX1 ∧ yX1_countWays.cls ≠ "java/lang/invoke/MethodHandle" ∧ yX1_countWays.cls ≠ "java/lang/invoke/VarHandle" ∧ (parseMethodDescriptor yX1_countWays.desc).map (fun d => d.parameters.length) = some 0 := ⟨rfl, hdS_X1_countWays⟩
theorem hdS_X1_firstAt : yX1_firstAt.cls ≠ "java/lang/invoke/MethodHandle" ∧ yX1_firstAt.cls ≠ "java/lang/invoke/VarHandle" ∧ (parseMethodDescriptor yX1_firstAt.desc).map (fun d => d.parameters.length) = some 1 := by decide +kernel
theorem hdV_X1_firstAt : yX1_firstAt.cls = RX1 ∧ yX1_firstAt.cls ≠ "java/lang/invoke/MethodHandle" ∧ yX1_firstAt.cls ≠ "java/lang/invoke/VarHandle" ∧ (parseMethodDescriptor yX1_firstAt.desc).map (fun d => d.parameters.length) = some 1 := ⟨rfl, hdS_X1_firstAt⟩
theorem hdS_X1_leastFor : yX1_leastFor.cls ≠ "java/lang/invoke/MethodHandle" ∧ yX1_leastFor.cls ≠ "java/lang/invoke/VarHandle" ∧ (parseMethodDescriptor yX1_leastFor.desc).map (fun d => d.parameters.length) = some 2 := by decide +kernel
theorem hdV_X1_leastFor : yX1_leastFor.cls = RX1 ∧ yX1_leastFor.cls ≠ "java/lang/invoke/MethodHandle" ∧ yX1_leastFor.cls ≠ "java/lang/invoke/VarHandle" ∧ (parseMethodDescriptor yX1_leastFor.desc).map (fun d => d.parameters.length) = some 2 := ⟨rfl, hdS_X1_leastFor⟩
theorem hdS_X2_clear : yX2_clear.cls ≠ "java/lang/invoke/MethodHandle" ∧ yX2_clear.cls ≠ "java/lang/invoke/VarHandle" ∧ (parseMethodDescriptor yX2_clear.desc).map (fun d => d.parameters.length) = some 0 := by decide +kernel
theorem hdV_X2_clear : yX2_clear.cls = RX2 ∧ yX2_clear.cls ≠ "java/lang/invoke/MethodHandle" ∧ yX2_clear.cls ≠ "java/lang/invoke/VarHandle" ∧ (parseMethodDescriptor yX2_clear.desc).map (fun d => d.parameters.length) = some 0 := ⟨rfl, hdS_X2_clear⟩
theorem hdS_X2_add : yX2_add.cls ≠ "java/lang/invoke/MethodHandle" ∧ yX2_add.cls ≠ "java/lang/invoke/VarHandle" ∧ (parseMethodDescriptor yX2_add.desc).map (fun d => d.parameters.length) = some 2 := by decide +kernel
theorem hdV_X2_add : yX2_add.cls = RX2 ∧ yX2_add.cls ≠ "java/lang/invoke/MethodHandle" ∧ yX2_add.cls ≠ "java/lang/invoke/VarHandle" ∧ (parseMethodDescriptor yX2_add.desc).map (fun d => d.parameters.length) = some 2 := ⟨rfl, hdS_X2_add⟩
theorem hdS_X2_areSoWith : yX2_areSoWith.cls ≠ "java/lang/invoke/MethodHandle" ∧ yX2_areSoWith.cls ≠ "java/lang/invoke/VarHandle" ∧ (parseMethodDescriptor yX2_areSoWith.desc).map (fun d => d.parameters.length) = some 3 := by decide +kernel
theorem hdV_X2_areSoWith : yX2_areSoWith.cls = RX2 ∧ yX2_areSoWith.cls ≠ "java/lang/invoke/MethodHandle" ∧ yX2_areSoWith.cls ≠ "java/lang/invoke/VarHandle" ∧ (parseMethodDescriptor yX2_areSoWith.desc).map (fun d => d.parameters.length) = some 3 := ⟨rfl, hdS_X2_areSoWith⟩
theorem hdS_X2_areSoByKey : yX2_areSoByKey.cls ≠ "java/lang/invoke/MethodHandle" ∧ yX2_areSoByKey.cls ≠ "java/lang/invoke/VarHandle" ∧ (parseMethodDescriptor yX2_areSoByKey.desc).map (fun d => d.parameters.length) = some 3 := by decide +kernel
theorem hdV_X2_areSoByKey : yX2_areSoByKey.cls = RX2 ∧ yX2_areSoByKey.cls ≠ "java/lang/invoke/MethodHandle" ∧ yX2_areSoByKey.cls ≠ "java/lang/invoke/VarHandle" ∧ (parseMethodDescriptor yX2_areSoByKey.desc).map (fun d => d.parameters.length) = some 3 := ⟨rfl, hdS_X2_areSoByKey⟩
theorem hdS_X3_begin : yX3_begin.cls ≠ "java/lang/invoke/MethodHandle" ∧ yX3_begin.cls ≠ "java/lang/invoke/VarHandle" ∧ (parseMethodDescriptor yX3_begin.desc).map (fun d => d.parameters.length) = some 2 := by decide +kernel
theorem hdV_X3_begin : yX3_begin.cls = RX3 ∧ yX3_begin.cls ≠ "java/lang/invoke/MethodHandle" ∧ yX3_begin.cls ≠ "java/lang/invoke/VarHandle" ∧ (parseMethodDescriptor yX3_begin.desc).map (fun d => d.parameters.length) = some 2 := ⟨rfl, hdS_X3_begin⟩
theorem hdS_X3_end : yX3_end.cls ≠ "java/lang/invoke/MethodHandle" ∧ yX3_end.cls ≠ "java/lang/invoke/VarHandle" ∧ (parseMethodDescriptor yX3_end.desc).map (fun d => d.parameters.length) = some 0 := by decide +kernel
theorem hdV_X3_end : yX3_end.cls = RX3 ∧ yX3_end.cls ≠ "java/lang/invoke/MethodHandle" ∧ yX3_end.cls ≠ "java/lang/invoke/VarHandle" ∧ (parseMethodDescriptor yX3_end.desc).map (fun d => d.parameters.length) = some 0 := ⟨rfl, hdS_X3_end⟩
theorem hdS_X3_hasRow : yX3_hasRow.cls ≠ "java/lang/invoke/MethodHandle" ∧ yX3_hasRow.cls ≠ "java/lang/invoke/VarHandle" ∧ (parseMethodDescriptor yX3_hasRow.desc).map (fun d => d.parameters.length) = some 0 := by decide +kernel
theorem hdV_X3_hasRow : yX3_hasRow.cls = RX3 ∧ yX3_hasRow.cls ≠ "java/lang/invoke/MethodHandle" ∧ yX3_hasRow.cls ≠ "java/lang/invoke/VarHandle" ∧ (parseMethodDescriptor yX3_hasRow.desc).map (fun d => d.parameters.length) = some 0 := ⟨rfl, hdS_X3_hasRow⟩
theorem hdS_X3_hasCells : yX3_hasCells.cls ≠ "java/lang/invoke/MethodHandle" ∧ yX3_hasCells.cls ≠ "java/lang/invoke/VarHandle" ∧ (parseMethodDescriptor yX3_hasCells.desc).map (fun d => d.parameters.length) = some 2 := by decide +kernel
theorem hdV_X3_hasCells : yX3_hasCells.cls = RX3 ∧ yX3_hasCells.cls ≠ "java/lang/invoke/MethodHandle" ∧ yX3_hasCells.cls ≠ "java/lang/invoke/VarHandle" ∧ (parseMethodDescriptor yX3_hasCells.desc).map (fun d => d.parameters.length) = some 2 := ⟨rfl, hdS_X3_hasCells⟩
theorem hdS_X3_faultAs : yX3_faultAs.cls ≠ "java/lang/invoke/MethodHandle" ∧ yX3_faultAs.cls ≠ "java/lang/invoke/VarHandle" ∧ (parseMethodDescriptor yX3_faultAs.desc).map (fun d => d.parameters.length) = some 1 := by decide +kernel
theorem hdV_X3_faultAs : yX3_faultAs.cls = RX3 ∧ yX3_faultAs.cls ≠ "java/lang/invoke/MethodHandle" ∧ yX3_faultAs.cls ≠ "java/lang/invoke/VarHandle" ∧ (parseMethodDescriptor yX3_faultAs.desc).map (fun d => d.parameters.length) = some 1 := ⟨rfl, hdS_X3_faultAs⟩
theorem hdS_X3_faultOfCells : yX3_faultOfCells.cls ≠ "java/lang/invoke/MethodHandle" ∧ yX3_faultOfCells.cls ≠ "java/lang/invoke/VarHandle" ∧ (parseMethodDescriptor yX3_faultOfCells.desc).map (fun d => d.parameters.length) = some 3 := by decide +kernel
theorem hdV_X3_faultOfCells : yX3_faultOfCells.cls = RX3 ∧ yX3_faultOfCells.cls ≠ "java/lang/invoke/MethodHandle" ∧ yX3_faultOfCells.cls ≠ "java/lang/invoke/VarHandle" ∧ (parseMethodDescriptor yX3_faultOfCells.desc).map (fun d => d.parameters.length) = some 3 := ⟨rfl, hdS_X3_faultOfCells⟩
theorem hdS_X3_at : yX3_at.cls ≠ "java/lang/invoke/MethodHandle" ∧ yX3_at.cls ≠ "java/lang/invoke/VarHandle" ∧ (parseMethodDescriptor yX3_at.desc).map (fun d => d.parameters.length) = some 1 := by decide +kernel
theorem hdV_X3_at : yX3_at.cls = RX3 ∧ yX3_at.cls ≠ "java/lang/invoke/MethodHandle" ∧ yX3_at.cls ≠ "java/lang/invoke/VarHandle" ∧ (parseMethodDescriptor yX3_at.desc).map (fun d => d.parameters.length) = some 1 := ⟨rfl, hdS_X3_at⟩
theorem hdS_X3_set : yX3_set.cls ≠ "java/lang/invoke/MethodHandle" ∧ yX3_set.cls ≠ "java/lang/invoke/VarHandle" ∧ (parseMethodDescriptor yX3_set.desc).map (fun d => d.parameters.length) = some 2 := by decide +kernel
theorem hdV_X3_set : yX3_set.cls = RX3 ∧ yX3_set.cls ≠ "java/lang/invoke/MethodHandle" ∧ yX3_set.cls ≠ "java/lang/invoke/VarHandle" ∧ (parseMethodDescriptor yX3_set.desc).map (fun d => d.parameters.length) = some 2 := ⟨rfl, hdS_X3_set⟩
theorem hdS_X4_fill : yX4_fill.cls ≠ "java/lang/invoke/MethodHandle" ∧ yX4_fill.cls ≠ "java/lang/invoke/VarHandle" ∧ (parseMethodDescriptor yX4_fill.desc).map (fun d => d.parameters.length) = some 3 := by decide +kernel
theorem hdV_X4_fill : yX4_fill.cls = RX4 ∧ yX4_fill.cls ≠ "java/lang/invoke/MethodHandle" ∧ yX4_fill.cls ≠ "java/lang/invoke/VarHandle" ∧ (parseMethodDescriptor yX4_fill.desc).map (fun d => d.parameters.length) = some 3 := ⟨rfl, hdS_X4_fill⟩
theorem hdS_X4_become : yX4_become.cls ≠ "java/lang/invoke/MethodHandle" ∧ yX4_become.cls ≠ "java/lang/invoke/VarHandle" ∧ (parseMethodDescriptor yX4_become.desc).map (fun d => d.parameters.length) = some 1 := by decide +kernel
theorem hdV_X4_become : yX4_become.cls = RX4 ∧ yX4_become.cls ≠ "java/lang/invoke/MethodHandle" ∧ yX4_become.cls ≠ "java/lang/invoke/VarHandle" ∧ (parseMethodDescriptor yX4_become.desc).map (fun d => d.parameters.length) = some 1 := ⟨rfl, hdS_X4_become⟩
theorem hdS_X4_isPin : yX4_isPin.cls ≠ "java/lang/invoke/MethodHandle" ∧ yX4_isPin.cls ≠ "java/lang/invoke/VarHandle" ∧ (parseMethodDescriptor yX4_isPin.desc).map (fun d => d.parameters.length) = some 1 := by decide +kernel
theorem hdV_X4_isPin : yX4_isPin.cls = RX4 ∧ yX4_isPin.cls ≠ "java/lang/invoke/MethodHandle" ∧ yX4_isPin.cls ≠ "java/lang/invoke/VarHandle" ∧ (parseMethodDescriptor yX4_isPin.desc).map (fun d => d.parameters.length) = some 1 := ⟨rfl, hdS_X4_isPin⟩
theorem hdS_X4_kindAt : yX4_kindAt.cls ≠ "java/lang/invoke/MethodHandle" ∧ yX4_kindAt.cls ≠ "java/lang/invoke/VarHandle" ∧ (parseMethodDescriptor yX4_kindAt.desc).map (fun d => d.parameters.length) = some 1 := by decide +kernel
theorem hdV_X4_kindAt : yX4_kindAt.cls = RX4 ∧ yX4_kindAt.cls ≠ "java/lang/invoke/MethodHandle" ∧ yX4_kindAt.cls ≠ "java/lang/invoke/VarHandle" ∧ (parseMethodDescriptor yX4_kindAt.desc).map (fun d => d.parameters.length) = some 1 := ⟨rfl, hdS_X4_kindAt⟩
theorem hdS_X4_bendAt : yX4_bendAt.cls ≠ "java/lang/invoke/MethodHandle" ∧ yX4_bendAt.cls ≠ "java/lang/invoke/VarHandle" ∧ (parseMethodDescriptor yX4_bendAt.desc).map (fun d => d.parameters.length) = some 1 := by decide +kernel
theorem hdV_X4_bendAt : yX4_bendAt.cls = RX4 ∧ yX4_bendAt.cls ≠ "java/lang/invoke/MethodHandle" ∧ yX4_bendAt.cls ≠ "java/lang/invoke/VarHandle" ∧ (parseMethodDescriptor yX4_bendAt.desc).map (fun d => d.parameters.length) = some 1 := ⟨rfl, hdS_X4_bendAt⟩
theorem hdS_X4_yearAt : yX4_yearAt.cls ≠ "java/lang/invoke/MethodHandle" ∧ yX4_yearAt.cls ≠ "java/lang/invoke/VarHandle" ∧ (parseMethodDescriptor yX4_yearAt.desc).map (fun d => d.parameters.length) = some 1 := by decide +kernel
theorem hdV_X4_yearAt : yX4_yearAt.cls = RX4 ∧ yX4_yearAt.cls ≠ "java/lang/invoke/MethodHandle" ∧ yX4_yearAt.cls ≠ "java/lang/invoke/VarHandle" ∧ (parseMethodDescriptor yX4_yearAt.desc).map (fun d => d.parameters.length) = some 1 := ⟨rfl, hdS_X4_yearAt⟩
theorem hdS_X4_turnAt : yX4_turnAt.cls ≠ "java/lang/invoke/MethodHandle" ∧ yX4_turnAt.cls ≠ "java/lang/invoke/VarHandle" ∧ (parseMethodDescriptor yX4_turnAt.desc).map (fun d => d.parameters.length) = some 1 := by decide +kernel
theorem hdV_X4_turnAt : yX4_turnAt.cls = RX4 ∧ yX4_turnAt.cls ≠ "java/lang/invoke/MethodHandle" ∧ yX4_turnAt.cls ≠ "java/lang/invoke/VarHandle" ∧ (parseMethodDescriptor yX4_turnAt.desc).map (fun d => d.parameters.length) = some 1 := ⟨rfl, hdS_X4_turnAt⟩
theorem hdS_X4_wishAt : yX4_wishAt.cls ≠ "java/lang/invoke/MethodHandle" ∧ yX4_wishAt.cls ≠ "java/lang/invoke/VarHandle" ∧ (parseMethodDescriptor yX4_wishAt.desc).map (fun d => d.parameters.length) = some 1 := by decide +kernel
theorem hdV_X4_wishAt : yX4_wishAt.cls = RX4 ∧ yX4_wishAt.cls ≠ "java/lang/invoke/MethodHandle" ∧ yX4_wishAt.cls ≠ "java/lang/invoke/VarHandle" ∧ (parseMethodDescriptor yX4_wishAt.desc).map (fun d => d.parameters.length) = some 1 := ⟨rfl, hdS_X4_wishAt⟩
theorem hdS_X4_wishNow : yX4_wishNow.cls ≠ "java/lang/invoke/MethodHandle" ∧ yX4_wishNow.cls ≠ "java/lang/invoke/VarHandle" ∧ (parseMethodDescriptor yX4_wishNow.desc).map (fun d => d.parameters.length) = some 2 := by decide +kernel
theorem hdV_X4_wishNow : yX4_wishNow.cls = RX4 ∧ yX4_wishNow.cls ≠ "java/lang/invoke/MethodHandle" ∧ yX4_wishNow.cls ≠ "java/lang/invoke/VarHandle" ∧ (parseMethodDescriptor yX4_wishNow.desc).map (fun d => d.parameters.length) = some 2 := ⟨rfl, hdS_X4_wishNow⟩
theorem hdS_X4_setBend : yX4_setBend.cls ≠ "java/lang/invoke/MethodHandle" ∧ yX4_setBend.cls ≠ "java/lang/invoke/VarHandle" ∧ (parseMethodDescriptor yX4_setBend.desc).map (fun d => d.parameters.length) = some 2 := by decide +kernel
theorem hdV_X4_setBend : yX4_setBend.cls = RX4 ∧ yX4_setBend.cls ≠ "java/lang/invoke/MethodHandle" ∧ yX4_setBend.cls ≠ "java/lang/invoke/VarHandle" ∧ (parseMethodDescriptor yX4_setBend.desc).map (fun d => d.parameters.length) = some 2 := ⟨rfl, hdS_X4_setBend⟩
theorem hdS_X4_addTop : yX4_addTop.cls ≠ "java/lang/invoke/MethodHandle" ∧ yX4_addTop.cls ≠ "java/lang/invoke/VarHandle" ∧ (parseMethodDescriptor yX4_addTop.desc).map (fun d => d.parameters.length) = some 2 := by decide +kernel
theorem hdV_X4_addTop : yX4_addTop.cls = RX4 ∧ yX4_addTop.cls ≠ "java/lang/invoke/MethodHandle" ∧ yX4_addTop.cls ≠ "java/lang/invoke/VarHandle" ∧ (parseMethodDescriptor yX4_addTop.desc).map (fun d => d.parameters.length) = some 2 := ⟨rfl, hdS_X4_addTop⟩
theorem hdS_X4_dropTop : yX4_dropTop.cls ≠ "java/lang/invoke/MethodHandle" ∧ yX4_dropTop.cls ≠ "java/lang/invoke/VarHandle" ∧ (parseMethodDescriptor yX4_dropTop.desc).map (fun d => d.parameters.length) = some 0 := by decide +kernel
theorem hdV_X4_dropTop : yX4_dropTop.cls = RX4 ∧ yX4_dropTop.cls ≠ "java/lang/invoke/MethodHandle" ∧ yX4_dropTop.cls ≠ "java/lang/invoke/VarHandle" ∧ (parseMethodDescriptor yX4_dropTop.desc).map (fun d => d.parameters.length) = some 0 := ⟨rfl, hdS_X4_dropTop⟩
theorem hdS_X5_well : yX5_well.cls ≠ "java/lang/invoke/MethodHandle" ∧ yX5_well.cls ≠ "java/lang/invoke/VarHandle" ∧ (parseMethodDescriptor yX5_well.desc).map (fun d => d.parameters.length) = some 4 := by decide +kernel
theorem hdV_X5_well : yX5_well.cls = RX5 ∧ yX5_well.cls ≠ "java/lang/invoke/MethodHandle" ∧ yX5_well.cls ≠ "java/lang/invoke/VarHandle" ∧ (parseMethodDescriptor yX5_well.desc).map (fun d => d.parameters.length) = some 4 := ⟨rfl, hdS_X5_well⟩
theorem hdS_X5_ofPin : yX5_ofPin.cls ≠ "java/lang/invoke/MethodHandle" ∧ yX5_ofPin.cls ≠ "java/lang/invoke/VarHandle" ∧ (parseMethodDescriptor yX5_ofPin.desc).map (fun d => d.parameters.length) = some 2 := by decide +kernel
theorem hdV_X5_ofPin : yX5_ofPin.cls = RX5 ∧ yX5_ofPin.cls ≠ "java/lang/invoke/MethodHandle" ∧ yX5_ofPin.cls ≠ "java/lang/invoke/VarHandle" ∧ (parseMethodDescriptor yX5_ofPin.desc).map (fun d => d.parameters.length) = some 2 := ⟨rfl, hdS_X5_ofPin⟩
theorem hdS_X5_bend : yX5_bend.cls ≠ "java/lang/invoke/MethodHandle" ∧ yX5_bend.cls ≠ "java/lang/invoke/VarHandle" ∧ (parseMethodDescriptor yX5_bend.desc).map (fun d => d.parameters.length) = some 2 := by decide +kernel
theorem hdV_X5_bend : yX5_bend.cls = RX5 ∧ yX5_bend.cls ≠ "java/lang/invoke/MethodHandle" ∧ yX5_bend.cls ≠ "java/lang/invoke/VarHandle" ∧ (parseMethodDescriptor yX5_bend.desc).map (fun d => d.parameters.length) = some 2 := ⟨rfl, hdS_X5_bend⟩
theorem hdS_X5_rekey : yX5_rekey.cls ≠ "java/lang/invoke/MethodHandle" ∧ yX5_rekey.cls ≠ "java/lang/invoke/VarHandle" ∧ (parseMethodDescriptor yX5_rekey.desc).map (fun d => d.parameters.length) = some 2 := by decide +kernel
theorem hdV_X5_rekey : yX5_rekey.cls = RX5 ∧ yX5_rekey.cls ≠ "java/lang/invoke/MethodHandle" ∧ yX5_rekey.cls ≠ "java/lang/invoke/VarHandle" ∧ (parseMethodDescriptor yX5_rekey.desc).map (fun d => d.parameters.length) = some 2 := ⟨rfl, hdS_X5_rekey⟩
theorem hdS_X5_wished : yX5_wished.cls ≠ "java/lang/invoke/MethodHandle" ∧ yX5_wished.cls ≠ "java/lang/invoke/VarHandle" ∧ (parseMethodDescriptor yX5_wished.desc).map (fun d => d.parameters.length) = some 1 := by decide +kernel
theorem hdV_X5_wished : yX5_wished.cls = RX5 ∧ yX5_wished.cls ≠ "java/lang/invoke/MethodHandle" ∧ yX5_wished.cls ≠ "java/lang/invoke/VarHandle" ∧ (parseMethodDescriptor yX5_wished.desc).map (fun d => d.parameters.length) = some 1 := ⟨rfl, hdS_X5_wished⟩
theorem hdS_X5_throwIn : yX5_throwIn.cls ≠ "java/lang/invoke/MethodHandle" ∧ yX5_throwIn.cls ≠ "java/lang/invoke/VarHandle" ∧ (parseMethodDescriptor yX5_throwIn.desc).map (fun d => d.parameters.length) = some 2 := by decide +kernel
theorem hdV_X5_throwIn : yX5_throwIn.cls = RX5 ∧ yX5_throwIn.cls ≠ "java/lang/invoke/MethodHandle" ∧ yX5_throwIn.cls ≠ "java/lang/invoke/VarHandle" ∧ (parseMethodDescriptor yX5_throwIn.desc).map (fun d => d.parameters.length) = some 2 := ⟨rfl, hdS_X5_throwIn⟩
theorem hdS_X5_fish : yX5_fish.cls ≠ "java/lang/invoke/MethodHandle" ∧ yX5_fish.cls ≠ "java/lang/invoke/VarHandle" ∧ (parseMethodDescriptor yX5_fish.desc).map (fun d => d.parameters.length) = some 0 := by decide +kernel
theorem hdV_X5_fish : yX5_fish.cls = RX5 ∧ yX5_fish.cls ≠ "java/lang/invoke/MethodHandle" ∧ yX5_fish.cls ≠ "java/lang/invoke/VarHandle" ∧ (parseMethodDescriptor yX5_fish.desc).map (fun d => d.parameters.length) = some 0 := ⟨rfl, hdS_X5_fish⟩
theorem hdS_X5_years : yX5_years.cls ≠ "java/lang/invoke/MethodHandle" ∧ yX5_years.cls ≠ "java/lang/invoke/VarHandle" ∧ (parseMethodDescriptor yX5_years.desc).map (fun d => d.parameters.length) = some 1 := by decide +kernel
theorem hdV_X5_years : yX5_years.cls = RX5 ∧ yX5_years.cls ≠ "java/lang/invoke/MethodHandle" ∧ yX5_years.cls ≠ "java/lang/invoke/VarHandle" ∧ (parseMethodDescriptor yX5_years.desc).map (fun d => d.parameters.length) = some 1 := ⟨rfl, hdS_X5_years⟩
theorem hdS_X5_century : yX5_century.cls ≠ "java/lang/invoke/MethodHandle" ∧ yX5_century.cls ≠ "java/lang/invoke/VarHandle" ∧ (parseMethodDescriptor yX5_century.desc).map (fun d => d.parameters.length) = some 5 := by decide +kernel
theorem hdV_X5_century : yX5_century.cls = RX5 ∧ yX5_century.cls ≠ "java/lang/invoke/MethodHandle" ∧ yX5_century.cls ≠ "java/lang/invoke/VarHandle" ∧ (parseMethodDescriptor yX5_century.desc).map (fun d => d.parameters.length) = some 5 := ⟨rfl, hdS_X5_century⟩
theorem hdS_X5_quiet : yX5_quiet.cls ≠ "java/lang/invoke/MethodHandle" ∧ yX5_quiet.cls ≠ "java/lang/invoke/VarHandle" ∧ (parseMethodDescriptor yX5_quiet.desc).map (fun d => d.parameters.length) = some 1 := by decide +kernel
theorem hdV_X5_quiet : yX5_quiet.cls = RX5 ∧ yX5_quiet.cls ≠ "java/lang/invoke/MethodHandle" ∧ yX5_quiet.cls ≠ "java/lang/invoke/VarHandle" ∧ (parseMethodDescriptor yX5_quiet.desc).map (fun d => d.parameters.length) = some 1 := ⟨rfl, hdS_X5_quiet⟩
theorem hdS_X5_run : yX5_run.cls ≠ "java/lang/invoke/MethodHandle" ∧ yX5_run.cls ≠ "java/lang/invoke/VarHandle" ∧ (parseMethodDescriptor yX5_run.desc).map (fun d => d.parameters.length) = some 1 := by decide +kernel
theorem hdV_X5_run : yX5_run.cls = RX5 ∧ yX5_run.cls ≠ "java/lang/invoke/MethodHandle" ∧ yX5_run.cls ≠ "java/lang/invoke/VarHandle" ∧ (parseMethodDescriptor yX5_run.desc).map (fun d => d.parameters.length) = some 1 := ⟨rfl, hdS_X5_run⟩
theorem hdS_X5_shape : yX5_shape.cls ≠ "java/lang/invoke/MethodHandle" ∧ yX5_shape.cls ≠ "java/lang/invoke/VarHandle" ∧ (parseMethodDescriptor yX5_shape.desc).map (fun d => d.parameters.length) = some 2 := by decide +kernel
theorem hdV_X5_shape : yX5_shape.cls = RX5 ∧ yX5_shape.cls ≠ "java/lang/invoke/MethodHandle" ∧ yX5_shape.cls ≠ "java/lang/invoke/VarHandle" ∧ (parseMethodDescriptor yX5_shape.desc).map (fun d => d.parameters.length) = some 2 := ⟨rfl, hdS_X5_shape⟩
theorem hdS_X5_layers : yX5_layers.cls ≠ "java/lang/invoke/MethodHandle" ∧ yX5_layers.cls ≠ "java/lang/invoke/VarHandle" ∧ (parseMethodDescriptor yX5_layers.desc).map (fun d => d.parameters.length) = some 4 := by decide +kernel
theorem hdV_X5_layers : yX5_layers.cls = RX5 ∧ yX5_layers.cls ≠ "java/lang/invoke/MethodHandle" ∧ yX5_layers.cls ≠ "java/lang/invoke/VarHandle" ∧ (parseMethodDescriptor yX5_layers.desc).map (fun d => d.parameters.length) = some 4 := ⟨rfl, hdS_X5_layers⟩
theorem hdS_X5_reading : yX5_reading.cls ≠ "java/lang/invoke/MethodHandle" ∧ yX5_reading.cls ≠ "java/lang/invoke/VarHandle" ∧ (parseMethodDescriptor yX5_reading.desc).map (fun d => d.parameters.length) = some 2 := by decide +kernel
theorem hdV_X5_reading : yX5_reading.cls = RX5 ∧ yX5_reading.cls ≠ "java/lang/invoke/MethodHandle" ∧ yX5_reading.cls ≠ "java/lang/invoke/VarHandle" ∧ (parseMethodDescriptor yX5_reading.desc).map (fun d => d.parameters.length) = some 2 := ⟨rfl, hdS_X5_reading⟩
theorem hdS_X5_back : yX5_back.cls ≠ "java/lang/invoke/MethodHandle" ∧ yX5_back.cls ≠ "java/lang/invoke/VarHandle" ∧ (parseMethodDescriptor yX5_back.desc).map (fun d => d.parameters.length) = some 1 := by decide +kernel
theorem hdV_X5_back : yX5_back.cls = RX5 ∧ yX5_back.cls ≠ "java/lang/invoke/MethodHandle" ∧ yX5_back.cls ≠ "java/lang/invoke/VarHandle" ∧ (parseMethodDescriptor yX5_back.desc).map (fun d => d.parameters.length) = some 1 := ⟨rfl, hdS_X5_back⟩
theorem hdS_X5_bends : yX5_bends.cls ≠ "java/lang/invoke/MethodHandle" ∧ yX5_bends.cls ≠ "java/lang/invoke/VarHandle" ∧ (parseMethodDescriptor yX5_bends.desc).map (fun d => d.parameters.length) = some 1 := by decide +kernel
theorem hdV_X5_bends : yX5_bends.cls = RX5 ∧ yX5_bends.cls ≠ "java/lang/invoke/MethodHandle" ∧ yX5_bends.cls ≠ "java/lang/invoke/VarHandle" ∧ (parseMethodDescriptor yX5_bends.desc).map (fun d => d.parameters.length) = some 1 := ⟨rfl, hdS_X5_bends⟩
theorem hdS_X5_kinds : yX5_kinds.cls ≠ "java/lang/invoke/MethodHandle" ∧ yX5_kinds.cls ≠ "java/lang/invoke/VarHandle" ∧ (parseMethodDescriptor yX5_kinds.desc).map (fun d => d.parameters.length) = some 1 := by decide +kernel
theorem hdV_X5_kinds : yX5_kinds.cls = RX5 ∧ yX5_kinds.cls ≠ "java/lang/invoke/MethodHandle" ∧ yX5_kinds.cls ≠ "java/lang/invoke/VarHandle" ∧ (parseMethodDescriptor yX5_kinds.desc).map (fun d => d.parameters.length) = some 1 := ⟨rfl, hdS_X5_kinds⟩
theorem hdS_X5_keys : yX5_keys.cls ≠ "java/lang/invoke/MethodHandle" ∧ yX5_keys.cls ≠ "java/lang/invoke/VarHandle" ∧ (parseMethodDescriptor yX5_keys.desc).map (fun d => d.parameters.length) = some 1 := by decide +kernel
theorem hdV_X5_keys : yX5_keys.cls = RX5 ∧ yX5_keys.cls ≠ "java/lang/invoke/MethodHandle" ∧ yX5_keys.cls ≠ "java/lang/invoke/VarHandle" ∧ (parseMethodDescriptor yX5_keys.desc).map (fun d => d.parameters.length) = some 1 := ⟨rfl, hdS_X5_keys⟩
theorem hdS_X5_odds : yX5_odds.cls ≠ "java/lang/invoke/MethodHandle" ∧ yX5_odds.cls ≠ "java/lang/invoke/VarHandle" ∧ (parseMethodDescriptor yX5_odds.desc).map (fun d => d.parameters.length) = some 3 := by decide +kernel
theorem hdV_X5_odds : yX5_odds.cls = RX5 ∧ yX5_odds.cls ≠ "java/lang/invoke/MethodHandle" ∧ yX5_odds.cls ≠ "java/lang/invoke/VarHandle" ∧ (parseMethodDescriptor yX5_odds.desc).map (fun d => d.parameters.length) = some 3 := ⟨rfl, hdS_X5_odds⟩
theorem hdS_X5_sheet : yX5_sheet.cls ≠ "java/lang/invoke/MethodHandle" ∧ yX5_sheet.cls ≠ "java/lang/invoke/VarHandle" ∧ (parseMethodDescriptor yX5_sheet.desc).map (fun d => d.parameters.length) = some 3 := by decide +kernel
theorem hdV_X5_sheet : yX5_sheet.cls = RX5 ∧ yX5_sheet.cls ≠ "java/lang/invoke/MethodHandle" ∧ yX5_sheet.cls ≠ "java/lang/invoke/VarHandle" ∧ (parseMethodDescriptor yX5_sheet.desc).map (fun d => d.parameters.length) = some 3 := ⟨rfl, hdS_X5_sheet⟩
theorem hdS_X5_lose : yX5_lose.cls ≠ "java/lang/invoke/MethodHandle" ∧ yX5_lose.cls ≠ "java/lang/invoke/VarHandle" ∧ (parseMethodDescriptor yX5_lose.desc).map (fun d => d.parameters.length) = some 1 := by decide +kernel
theorem hdV_X5_lose : yX5_lose.cls = RX5 ∧ yX5_lose.cls ≠ "java/lang/invoke/MethodHandle" ∧ yX5_lose.cls ≠ "java/lang/invoke/VarHandle" ∧ (parseMethodDescriptor yX5_lose.desc).map (fun d => d.parameters.length) = some 1 := ⟨rfl, hdS_X5_lose⟩
theorem hdS_X5_put : yX5_put.cls ≠ "java/lang/invoke/MethodHandle" ∧ yX5_put.cls ≠ "java/lang/invoke/VarHandle" ∧ (parseMethodDescriptor yX5_put.desc).map (fun d => d.parameters.length) = some 3 := by decide +kernel
theorem hdV_X5_put : yX5_put.cls = RX5 ∧ yX5_put.cls ≠ "java/lang/invoke/MethodHandle" ∧ yX5_put.cls ≠ "java/lang/invoke/VarHandle" ∧ (parseMethodDescriptor yX5_put.desc).map (fun d => d.parameters.length) = some 3 := ⟨rfl, hdS_X5_put⟩
theorem hdS_X5_cell : yX5_cell.cls ≠ "java/lang/invoke/MethodHandle" ∧ yX5_cell.cls ≠ "java/lang/invoke/VarHandle" ∧ (parseMethodDescriptor yX5_cell.desc).map (fun d => d.parameters.length) = some 3 := by decide +kernel
theorem hdV_X5_cell : yX5_cell.cls = RX5 ∧ yX5_cell.cls ≠ "java/lang/invoke/MethodHandle" ∧ yX5_cell.cls ≠ "java/lang/invoke/VarHandle" ∧ (parseMethodDescriptor yX5_cell.desc).map (fun d => d.parameters.length) = some 3 := ⟨rfl, hdS_X5_cell⟩
theorem hdS_X5_copy : yX5_copy.cls ≠ "java/lang/invoke/MethodHandle" ∧ yX5_copy.cls ≠ "java/lang/invoke/VarHandle" ∧ (parseMethodDescriptor yX5_copy.desc).map (fun d => d.parameters.length) = some 5 := by decide +kernel
theorem hdV_X5_copy : yX5_copy.cls = RX5 ∧ yX5_copy.cls ≠ "java/lang/invoke/MethodHandle" ∧ yX5_copy.cls ≠ "java/lang/invoke/VarHandle" ∧ (parseMethodDescriptor yX5_copy.desc).map (fun d => d.parameters.length) = some 5 := ⟨rfl, hdS_X5_copy⟩
theorem hdS_X5_tell : yX5_tell.cls ≠ "java/lang/invoke/MethodHandle" ∧ yX5_tell.cls ≠ "java/lang/invoke/VarHandle" ∧ (parseMethodDescriptor yX5_tell.desc).map (fun d => d.parameters.length) = some 1 := by decide +kernel
theorem hdV_X5_tell : yX5_tell.cls = RX5 ∧ yX5_tell.cls ≠ "java/lang/invoke/MethodHandle" ∧ yX5_tell.cls ≠ "java/lang/invoke/VarHandle" ∧ (parseMethodDescriptor yX5_tell.desc).map (fun d => d.parameters.length) = some 1 := ⟨rfl, hdS_X5_tell⟩
theorem hdS_X5_splash : yX5_splash.cls ≠ "java/lang/invoke/MethodHandle" ∧ yX5_splash.cls ≠ "java/lang/invoke/VarHandle" ∧ (parseMethodDescriptor yX5_splash.desc).map (fun d => d.parameters.length) = some 1 := by decide +kernel
theorem hdV_X5_splash : yX5_splash.cls = RX5 ∧ yX5_splash.cls ≠ "java/lang/invoke/MethodHandle" ∧ yX5_splash.cls ≠ "java/lang/invoke/VarHandle" ∧ (parseMethodDescriptor yX5_splash.desc).map (fun d => d.parameters.length) = some 1 := ⟨rfl, hdS_X5_splash⟩
theorem hdS_X5_as : yX5_as.cls ≠ "java/lang/invoke/MethodHandle" ∧ yX5_as.cls ≠ "java/lang/invoke/VarHandle" ∧ (parseMethodDescriptor yX5_as.desc).map (fun d => d.parameters.length) = some 2 := by decide +kernel
theorem hdV_X5_as : yX5_as.cls = RX5 ∧ yX5_as.cls ≠ "java/lang/invoke/MethodHandle" ∧ yX5_as.cls ≠ "java/lang/invoke/VarHandle" ∧ (parseMethodDescriptor yX5_as.desc).map (fun d => d.parameters.length) = some 2 := ⟨rfl, hdS_X5_as⟩
theorem hdS_X5_trace : yX5_trace.cls ≠ "java/lang/invoke/MethodHandle" ∧ yX5_trace.cls ≠ "java/lang/invoke/VarHandle" ∧ (parseMethodDescriptor yX5_trace.desc).map (fun d => d.parameters.length) = some 0 := by decide +kernel
theorem hdV_X5_trace : yX5_trace.cls = RX5 ∧ yX5_trace.cls ≠ "java/lang/invoke/MethodHandle" ∧ yX5_trace.cls ≠ "java/lang/invoke/VarHandle" ∧ (parseMethodDescriptor yX5_trace.desc).map (fun d => d.parameters.length) = some 0 := ⟨rfl, hdS_X5_trace⟩
theorem hdS_X5_fault : yX5_fault.cls ≠ "java/lang/invoke/MethodHandle" ∧ yX5_fault.cls ≠ "java/lang/invoke/VarHandle" ∧ (parseMethodDescriptor yX5_fault.desc).map (fun d => d.parameters.length) = some 0 := by decide +kernel
theorem hdV_X5_fault : yX5_fault.cls = RX5 ∧ yX5_fault.cls ≠ "java/lang/invoke/MethodHandle" ∧ yX5_fault.cls ≠ "java/lang/invoke/VarHandle" ∧ (parseMethodDescriptor yX5_fault.desc).map (fun d => d.parameters.length) = some 0 := ⟨rfl, hdS_X5_fault⟩
theorem hdS_X5_many : yX5_many.cls ≠ "java/lang/invoke/MethodHandle" ∧ yX5_many.cls ≠ "java/lang/invoke/VarHandle" ∧ (parseMethodDescriptor yX5_many.desc).map (fun d => d.parameters.length) = some 1 := by decide +kernel
theorem hdV_X5_many : yX5_many.cls = RX5 ∧ yX5_many.cls ≠ "java/lang/invoke/MethodHandle" ∧ yX5_many.cls ≠ "java/lang/invoke/VarHandle" ∧ (parseMethodDescriptor yX5_many.desc).map (fun d => d.parameters.length) = some 1 := ⟨rfl, hdS_X5_many⟩
theorem hdS_X5_failed : yX5_failed.cls ≠ "java/lang/invoke/MethodHandle" ∧ yX5_failed.cls ≠ "java/lang/invoke/VarHandle" ∧ (parseMethodDescriptor yX5_failed.desc).map (fun d => d.parameters.length) = some 1 := by decide +kernel
theorem hdV_X5_failed : yX5_failed.cls = RX5 ∧ yX5_failed.cls ≠ "java/lang/invoke/MethodHandle" ∧ yX5_failed.cls ≠ "java/lang/invoke/VarHandle" ∧ (parseMethodDescriptor yX5_failed.desc).map (fun d => d.parameters.length) = some 1 := ⟨rfl, hdS_X5_failed⟩
theorem hdS_X5_hasWell : yX5_hasWell.cls ≠ "java/lang/invoke/MethodHandle" ∧ yX5_hasWell.cls ≠ "java/lang/invoke/VarHandle" ∧ (parseMethodDescriptor yX5_hasWell.desc).map (fun d => d.parameters.length) = some 0 := by decide +kernel
theorem hdV_X5_hasWell : yX5_hasWell.cls = RX5 ∧ yX5_hasWell.cls ≠ "java/lang/invoke/MethodHandle" ∧ yX5_hasWell.cls ≠ "java/lang/invoke/VarHandle" ∧ (parseMethodDescriptor yX5_hasWell.desc).map (fun d => d.parameters.length) = some 0 := ⟨rfl, hdS_X5_hasWell⟩
theorem hdS_X5_isSheet : yX5_isSheet.cls ≠ "java/lang/invoke/MethodHandle" ∧ yX5_isSheet.cls ≠ "java/lang/invoke/VarHandle" ∧ (parseMethodDescriptor yX5_isSheet.desc).map (fun d => d.parameters.length) = some 1 := by decide +kernel
theorem hdV_X5_isSheet : yX5_isSheet.cls = RX5 ∧ yX5_isSheet.cls ≠ "java/lang/invoke/MethodHandle" ∧ yX5_isSheet.cls ≠ "java/lang/invoke/VarHandle" ∧ (parseMethodDescriptor yX5_isSheet.desc).map (fun d => d.parameters.length) = some 1 := ⟨rfl, hdS_X5_isSheet⟩
theorem hdS_X5_isLane : yX5_isLane.cls ≠ "java/lang/invoke/MethodHandle" ∧ yX5_isLane.cls ≠ "java/lang/invoke/VarHandle" ∧ (parseMethodDescriptor yX5_isLane.desc).map (fun d => d.parameters.length) = some 1 := by decide +kernel
theorem hdV_X5_isLane : yX5_isLane.cls = RX5 ∧ yX5_isLane.cls ≠ "java/lang/invoke/MethodHandle" ∧ yX5_isLane.cls ≠ "java/lang/invoke/VarHandle" ∧ (parseMethodDescriptor yX5_isLane.desc).map (fun d => d.parameters.length) = some 1 := ⟨rfl, hdS_X5_isLane⟩
theorem hdS_X5_isKind : yX5_isKind.cls ≠ "java/lang/invoke/MethodHandle" ∧ yX5_isKind.cls ≠ "java/lang/invoke/VarHandle" ∧ (parseMethodDescriptor yX5_isKind.desc).map (fun d => d.parameters.length) = some 1 := by decide +kernel
theorem hdV_X5_isKind : yX5_isKind.cls = RX5 ∧ yX5_isKind.cls ≠ "java/lang/invoke/MethodHandle" ∧ yX5_isKind.cls ≠ "java/lang/invoke/VarHandle" ∧ (parseMethodDescriptor yX5_isKind.desc).map (fun d => d.parameters.length) = some 1 := ⟨rfl, hdS_X5_isKind⟩
theorem hdS_X5_isBend : yX5_isBend.cls ≠ "java/lang/invoke/MethodHandle" ∧ yX5_isBend.cls ≠ "java/lang/invoke/VarHandle" ∧ (parseMethodDescriptor yX5_isBend.desc).map (fun d => d.parameters.length) = some 1 := by decide +kernel
theorem hdV_X5_isBend : yX5_isBend.cls = RX5 ∧ yX5_isBend.cls ≠ "java/lang/invoke/MethodHandle" ∧ yX5_isBend.cls ≠ "java/lang/invoke/VarHandle" ∧ (parseMethodDescriptor yX5_isBend.desc).map (fun d => d.parameters.length) = some 1 := ⟨rfl, hdS_X5_isBend⟩
theorem hdS_X5_isWish : yX5_isWish.cls ≠ "java/lang/invoke/MethodHandle" ∧ yX5_isWish.cls ≠ "java/lang/invoke/VarHandle" ∧ (parseMethodDescriptor yX5_isWish.desc).map (fun d => d.parameters.length) = some 1 := by decide +kernel
theorem hdV_X5_isWish : yX5_isWish.cls = RX5 ∧ yX5_isWish.cls ≠ "java/lang/invoke/MethodHandle" ∧ yX5_isWish.cls ≠ "java/lang/invoke/VarHandle" ∧ (parseMethodDescriptor yX5_isWish.desc).map (fun d => d.parameters.length) = some 1 := ⟨rfl, hdS_X5_isWish⟩
theorem hdS_X5_isToldOfCentury : yX5_isToldOfCentury.cls ≠ "java/lang/invoke/MethodHandle" ∧ yX5_isToldOfCentury.cls ≠ "java/lang/invoke/VarHandle" ∧ (parseMethodDescriptor yX5_isToldOfCentury.desc).map (fun d => d.parameters.length) = some 1 := by decide +kernel
theorem hdV_X5_isToldOfCentury : yX5_isToldOfCentury.cls = RX5 ∧ yX5_isToldOfCentury.cls ≠ "java/lang/invoke/MethodHandle" ∧ yX5_isToldOfCentury.cls ≠ "java/lang/invoke/VarHandle" ∧ (parseMethodDescriptor yX5_isToldOfCentury.desc).map (fun d => d.parameters.length) = some 1 := ⟨rfl, hdS_X5_isToldOfCentury⟩
theorem hdS_X5_isAct : yX5_isAct.cls ≠ "java/lang/invoke/MethodHandle" ∧ yX5_isAct.cls ≠ "java/lang/invoke/VarHandle" ∧ (parseMethodDescriptor yX5_isAct.desc).map (fun d => d.parameters.length) = some 2 := by decide +kernel
theorem hdV_X5_isAct : yX5_isAct.cls = RX5 ∧ yX5_isAct.cls ≠ "java/lang/invoke/MethodHandle" ∧ yX5_isAct.cls ≠ "java/lang/invoke/VarHandle" ∧ (parseMethodDescriptor yX5_isAct.desc).map (fun d => d.parameters.length) = some 2 := ⟨rfl, hdS_X5_isAct⟩
theorem hdS_X5_keyNumber : yX5_keyNumber.cls ≠ "java/lang/invoke/MethodHandle" ∧ yX5_keyNumber.cls ≠ "java/lang/invoke/VarHandle" ∧ (parseMethodDescriptor yX5_keyNumber.desc).map (fun d => d.parameters.length) = some 2 := by decide +kernel
theorem hdV_X5_keyNumber : yX5_keyNumber.cls = RX5 ∧ yX5_keyNumber.cls ≠ "java/lang/invoke/MethodHandle" ∧ yX5_keyNumber.cls ≠ "java/lang/invoke/VarHandle" ∧ (parseMethodDescriptor yX5_keyNumber.desc).map (fun d => d.parameters.length) = some 2 := ⟨rfl, hdS_X5_keyNumber⟩
theorem hdS_X5_turnOf : yX5_turnOf.cls ≠ "java/lang/invoke/MethodHandle" ∧ yX5_turnOf.cls ≠ "java/lang/invoke/VarHandle" ∧ (parseMethodDescriptor yX5_turnOf.desc).map (fun d => d.parameters.length) = some 2 := by decide +kernel
theorem hdV_X5_turnOf : yX5_turnOf.cls = RX5 ∧ yX5_turnOf.cls ≠ "java/lang/invoke/MethodHandle" ∧ yX5_turnOf.cls ≠ "java/lang/invoke/VarHandle" ∧ (parseMethodDescriptor yX5_turnOf.desc).map (fun d => d.parameters.length) = some 2 := ⟨rfl, hdS_X5_turnOf⟩
theorem hdS_X5_wishOf : yX5_wishOf.cls ≠ "java/lang/invoke/MethodHandle" ∧ yX5_wishOf.cls ≠ "java/lang/invoke/VarHandle" ∧ (parseMethodDescriptor yX5_wishOf.desc).map (fun d => d.parameters.length) = some 4 := by decide +kernel
theorem hdV_X5_wishOf : yX5_wishOf.cls = RX5 ∧ yX5_wishOf.cls ≠ "java/lang/invoke/MethodHandle" ∧ yX5_wishOf.cls ≠ "java/lang/invoke/VarHandle" ∧ (parseMethodDescriptor yX5_wishOf.desc).map (fun d => d.parameters.length) = some 4 := ⟨rfl, hdS_X5_wishOf⟩
theorem hdS_X5_greatestShared : yX5_greatestShared.cls ≠ "java/lang/invoke/MethodHandle" ∧ yX5_greatestShared.cls ≠ "java/lang/invoke/VarHandle" ∧ (parseMethodDescriptor yX5_greatestShared.desc).map (fun d => d.parameters.length) = some 2 := by decide +kernel
theorem hdV_X5_greatestShared : yX5_greatestShared.cls = RX5 ∧ yX5_greatestShared.cls ≠ "java/lang/invoke/MethodHandle" ∧ yX5_greatestShared.cls ≠ "java/lang/invoke/VarHandle" ∧ (parseMethodDescriptor yX5_greatestShared.desc).map (fun d => d.parameters.length) = some 2 := ⟨rfl, hdS_X5_greatestShared⟩
theorem hdS_X5_firstFault : yX5_firstFault.cls ≠ "java/lang/invoke/MethodHandle" ∧ yX5_firstFault.cls ≠ "java/lang/invoke/VarHandle" ∧ (parseMethodDescriptor yX5_firstFault.desc).map (fun d => d.parameters.length) = some 3 := by decide +kernel
theorem hdV_X5_firstFault : yX5_firstFault.cls = RX5 ∧ yX5_firstFault.cls ≠ "java/lang/invoke/MethodHandle" ∧ yX5_firstFault.cls ≠ "java/lang/invoke/VarHandle" ∧ (parseMethodDescriptor yX5_firstFault.desc).map (fun d => d.parameters.length) = some 3 := ⟨rfl, hdS_X5_firstFault⟩
theorem hdS_X5_goesOn : yX5_goesOn.cls ≠ "java/lang/invoke/MethodHandle" ∧ yX5_goesOn.cls ≠ "java/lang/invoke/VarHandle" ∧ (parseMethodDescriptor yX5_goesOn.desc).map (fun d => d.parameters.length) = some 2 := by decide +kernel
theorem hdV_X5_goesOn : yX5_goesOn.cls = RX5 ∧ yX5_goesOn.cls ≠ "java/lang/invoke/MethodHandle" ∧ yX5_goesOn.cls ≠ "java/lang/invoke/VarHandle" ∧ (parseMethodDescriptor yX5_goesOn.desc).map (fun d => d.parameters.length) = some 2 := ⟨rfl, hdS_X5_goesOn⟩
theorem hdS_X5_beginBody : yX5_beginBody.cls ≠ "java/lang/invoke/MethodHandle" ∧ yX5_beginBody.cls ≠ "java/lang/invoke/VarHandle" ∧ (parseMethodDescriptor yX5_beginBody.desc).map (fun d => d.parameters.length) = some 1 := by decide +kernel
theorem hdV_X5_beginBody : yX5_beginBody.cls = RX5 ∧ yX5_beginBody.cls ≠ "java/lang/invoke/MethodHandle" ∧ yX5_beginBody.cls ≠ "java/lang/invoke/VarHandle" ∧ (parseMethodDescriptor yX5_beginBody.desc).map (fun d => d.parameters.length) = some 1 := ⟨rfl, hdS_X5_beginBody⟩
theorem hdS_X5_tellPlain : yX5_tellPlain.cls ≠ "java/lang/invoke/MethodHandle" ∧ yX5_tellPlain.cls ≠ "java/lang/invoke/VarHandle" ∧ (parseMethodDescriptor yX5_tellPlain.desc).map (fun d => d.parameters.length) = some 1 := by decide +kernel
theorem hdV_X5_tellPlain : yX5_tellPlain.cls = RX5 ∧ yX5_tellPlain.cls ≠ "java/lang/invoke/MethodHandle" ∧ yX5_tellPlain.cls ≠ "java/lang/invoke/VarHandle" ∧ (parseMethodDescriptor yX5_tellPlain.desc).map (fun d => d.parameters.length) = some 1 := ⟨rfl, hdS_X5_tellPlain⟩
theorem hdS_X5_tellCrook : yX5_tellCrook.cls ≠ "java/lang/invoke/MethodHandle" ∧ yX5_tellCrook.cls ≠ "java/lang/invoke/VarHandle" ∧ (parseMethodDescriptor yX5_tellCrook.desc).map (fun d => d.parameters.length) = some 1 := by decide +kernel
theorem hdV_X5_tellCrook : yX5_tellCrook.cls = RX5 ∧ yX5_tellCrook.cls ≠ "java/lang/invoke/MethodHandle" ∧ yX5_tellCrook.cls ≠ "java/lang/invoke/VarHandle" ∧ (parseMethodDescriptor yX5_tellCrook.desc).map (fun d => d.parameters.length) = some 1 := ⟨rfl, hdS_X5_tellCrook⟩
theorem hdS_X5_tellDouble : yX5_tellDouble.cls ≠ "java/lang/invoke/MethodHandle" ∧ yX5_tellDouble.cls ≠ "java/lang/invoke/VarHandle" ∧ (parseMethodDescriptor yX5_tellDouble.desc).map (fun d => d.parameters.length) = some 1 := by decide +kernel
theorem hdV_X5_tellDouble : yX5_tellDouble.cls = RX5 ∧ yX5_tellDouble.cls ≠ "java/lang/invoke/MethodHandle" ∧ yX5_tellDouble.cls ≠ "java/lang/invoke/VarHandle" ∧ (parseMethodDescriptor yX5_tellDouble.desc).map (fun d => d.parameters.length) = some 1 := ⟨rfl, hdS_X5_tellDouble⟩
theorem hdS_X6_in : yX6_in.cls ≠ "java/lang/invoke/MethodHandle" ∧ yX6_in.cls ≠ "java/lang/invoke/VarHandle" ∧ (parseMethodDescriptor yX6_in.desc).map (fun d => d.parameters.length) = some 3 := by decide +kernel
theorem hdV_X6_in : yX6_in.cls = RX6 ∧ yX6_in.cls ≠ "java/lang/invoke/MethodHandle" ∧ yX6_in.cls ≠ "java/lang/invoke/VarHandle" ∧ (parseMethodDescriptor yX6_in.desc).map (fun d => d.parameters.length) = some 3 := ⟨rfl, hdS_X6_in⟩
theorem hdS_X6_lost : yX6_lost.cls ≠ "java/lang/invoke/MethodHandle" ∧ yX6_lost.cls ≠ "java/lang/invoke/VarHandle" ∧ (parseMethodDescriptor yX6_lost.desc).map (fun d => d.parameters.length) = some 0 := by decide +kernel
theorem hdV_X6_lost : yX6_lost.cls = RX6 ∧ yX6_lost.cls ≠ "java/lang/invoke/MethodHandle" ∧ yX6_lost.cls ≠ "java/lang/invoke/VarHandle" ∧ (parseMethodDescriptor yX6_lost.desc).map (fun d => d.parameters.length) = some 0 := ⟨rfl, hdS_X6_lost⟩
theorem hdS_X6_isIn : yX6_isIn.cls ≠ "java/lang/invoke/MethodHandle" ∧ yX6_isIn.cls ≠ "java/lang/invoke/VarHandle" ∧ (parseMethodDescriptor yX6_isIn.desc).map (fun d => d.parameters.length) = some 2 := by decide +kernel
theorem hdV_X6_isIn : yX6_isIn.cls = RX6 ∧ yX6_isIn.cls ≠ "java/lang/invoke/MethodHandle" ∧ yX6_isIn.cls ≠ "java/lang/invoke/VarHandle" ∧ (parseMethodDescriptor yX6_isIn.desc).map (fun d => d.parameters.length) = some 2 := ⟨rfl, hdS_X6_isIn⟩
theorem hdS_X6_bits : yX6_bits.cls ≠ "java/lang/invoke/MethodHandle" ∧ yX6_bits.cls ≠ "java/lang/invoke/VarHandle" ∧ (parseMethodDescriptor yX6_bits.desc).map (fun d => d.parameters.length) = some 1 := by decide +kernel
theorem hdV_X6_bits : yX6_bits.cls = RX6 ∧ yX6_bits.cls ≠ "java/lang/invoke/MethodHandle" ∧ yX6_bits.cls ≠ "java/lang/invoke/VarHandle" ∧ (parseMethodDescriptor yX6_bits.desc).map (fun d => d.parameters.length) = some 1 := ⟨rfl, hdS_X6_bits⟩
theorem hdS_X6_share : yX6_share.cls ≠ "java/lang/invoke/MethodHandle" ∧ yX6_share.cls ≠ "java/lang/invoke/VarHandle" ∧ (parseMethodDescriptor yX6_share.desc).map (fun d => d.parameters.length) = some 3 := by decide +kernel
theorem hdV_X6_share : yX6_share.cls = RX6 ∧ yX6_share.cls ≠ "java/lang/invoke/MethodHandle" ∧ yX6_share.cls ≠ "java/lang/invoke/VarHandle" ∧ (parseMethodDescriptor yX6_share.desc).map (fun d => d.parameters.length) = some 3 := ⟨rfl, hdS_X6_share⟩
theorem hdS_X6_refused : yX6_refused.cls ≠ "java/lang/invoke/MethodHandle" ∧ yX6_refused.cls ≠ "java/lang/invoke/VarHandle" ∧ (parseMethodDescriptor yX6_refused.desc).map (fun d => d.parameters.length) = some 1 := by decide +kernel
theorem hdV_X6_refused : yX6_refused.cls = RX6 ∧ yX6_refused.cls ≠ "java/lang/invoke/MethodHandle" ∧ yX6_refused.cls ≠ "java/lang/invoke/VarHandle" ∧ (parseMethodDescriptor yX6_refused.desc).map (fun d => d.parameters.length) = some 1 := ⟨rfl, hdS_X6_refused⟩
theorem hdS_X6_failed : yX6_failed.cls ≠ "java/lang/invoke/MethodHandle" ∧ yX6_failed.cls ≠ "java/lang/invoke/VarHandle" ∧ (parseMethodDescriptor yX6_failed.desc).map (fun d => d.parameters.length) = some 1 := by decide +kernel
theorem hdV_X6_failed : yX6_failed.cls = RX6 ∧ yX6_failed.cls ≠ "java/lang/invoke/MethodHandle" ∧ yX6_failed.cls ≠ "java/lang/invoke/VarHandle" ∧ (parseMethodDescriptor yX6_failed.desc).map (fun d => d.parameters.length) = some 1 := ⟨rfl, hdS_X6_failed⟩
theorem hdS_X6_failedLong : yX6_failedLong.cls ≠ "java/lang/invoke/MethodHandle" ∧ yX6_failedLong.cls ≠ "java/lang/invoke/VarHandle" ∧ (parseMethodDescriptor yX6_failedLong.desc).map (fun d => d.parameters.length) = some 1 := by decide +kernel
theorem hdV_X6_failedLong : yX6_failedLong.cls = RX6 ∧ yX6_failedLong.cls ≠ "java/lang/invoke/MethodHandle" ∧ yX6_failedLong.cls ≠ "java/lang/invoke/VarHandle" ∧ (parseMethodDescriptor yX6_failedLong.desc).map (fun d => d.parameters.length) = some 1 := ⟨rfl, hdS_X6_failedLong⟩
theorem hdS_X6_noPin : yX6_noPin.cls ≠ "java/lang/invoke/MethodHandle" ∧ yX6_noPin.cls ≠ "java/lang/invoke/VarHandle" ∧ (parseMethodDescriptor yX6_noPin.desc).map (fun d => d.parameters.length) = some 1 := by decide +kernel
theorem hdV_X6_noPin : yX6_noPin.cls = RX6 ∧ yX6_noPin.cls ≠ "java/lang/invoke/MethodHandle" ∧ yX6_noPin.cls ≠ "java/lang/invoke/VarHandle" ∧ (parseMethodDescriptor yX6_noPin.desc).map (fun d => d.parameters.length) = some 1 := ⟨rfl, hdS_X6_noPin⟩
theorem hdS_X6_codeAt : yX6_codeAt.cls ≠ "java/lang/invoke/MethodHandle" ∧ yX6_codeAt.cls ≠ "java/lang/invoke/VarHandle" ∧ (parseMethodDescriptor yX6_codeAt.desc).map (fun d => d.parameters.length) = some 2 := by decide +kernel
theorem hdV_X6_codeAt : yX6_codeAt.cls = RX6 ∧ yX6_codeAt.cls ≠ "java/lang/invoke/MethodHandle" ∧ yX6_codeAt.cls ≠ "java/lang/invoke/VarHandle" ∧ (parseMethodDescriptor yX6_codeAt.desc).map (fun d => d.parameters.length) = some 2 := ⟨rfl, hdS_X6_codeAt⟩
theorem hdS_X6_figure : yX6_figure.cls ≠ "java/lang/invoke/MethodHandle" ∧ yX6_figure.cls ≠ "java/lang/invoke/VarHandle" ∧ (parseMethodDescriptor yX6_figure.desc).map (fun d => d.parameters.length) = some 5 := by decide +kernel
theorem hdV_X6_figure : yX6_figure.cls = RX6 ∧ yX6_figure.cls ≠ "java/lang/invoke/MethodHandle" ∧ yX6_figure.cls ≠ "java/lang/invoke/VarHandle" ∧ (parseMethodDescriptor yX6_figure.desc).map (fun d => d.parameters.length) = some 5 := ⟨rfl, hdS_X6_figure⟩
theorem hdS_X6_readsPin : yX6_readsPin.cls ≠ "java/lang/invoke/MethodHandle" ∧ yX6_readsPin.cls ≠ "java/lang/invoke/VarHandle" ∧ (parseMethodDescriptor yX6_readsPin.desc).map (fun d => d.parameters.length) = some 2 := by decide +kernel
theorem hdV_X6_readsPin : yX6_readsPin.cls = RX6 ∧ yX6_readsPin.cls ≠ "java/lang/invoke/MethodHandle" ∧ yX6_readsPin.cls ≠ "java/lang/invoke/VarHandle" ∧ (parseMethodDescriptor yX6_readsPin.desc).map (fun d => d.parameters.length) = some 2 := ⟨rfl, hdS_X6_readsPin⟩
theorem hdS_X6_readsWell : yX6_readsWell.cls ≠ "java/lang/invoke/MethodHandle" ∧ yX6_readsWell.cls ≠ "java/lang/invoke/VarHandle" ∧ (parseMethodDescriptor yX6_readsWell.desc).map (fun d => d.parameters.length) = some 2 := by decide +kernel
theorem hdV_X6_readsWell : yX6_readsWell.cls = RX6 ∧ yX6_readsWell.cls ≠ "java/lang/invoke/MethodHandle" ∧ yX6_readsWell.cls ≠ "java/lang/invoke/VarHandle" ∧ (parseMethodDescriptor yX6_readsWell.desc).map (fun d => d.parameters.length) = some 2 := ⟨rfl, hdS_X6_readsWell⟩
theorem hdS_X6_cellsBarred : yX6_cellsBarred.cls ≠ "java/lang/invoke/MethodHandle" ∧ yX6_cellsBarred.cls ≠ "java/lang/invoke/VarHandle" ∧ (parseMethodDescriptor yX6_cellsBarred.desc).map (fun d => d.parameters.length) = some 4 := by decide +kernel
theorem hdV_X6_cellsBarred : yX6_cellsBarred.cls = RX6 ∧ yX6_cellsBarred.cls ≠ "java/lang/invoke/MethodHandle" ∧ yX6_cellsBarred.cls ≠ "java/lang/invoke/VarHandle" ∧ (parseMethodDescriptor yX6_cellsBarred.desc).map (fun d => d.parameters.length) = some 4 := ⟨rfl, hdS_X6_cellsBarred⟩
theorem hdS_X6_well : yX6_well.cls ≠ "java/lang/invoke/MethodHandle" ∧ yX6_well.cls ≠ "java/lang/invoke/VarHandle" ∧ (parseMethodDescriptor yX6_well.desc).map (fun d => d.parameters.length) = some 4 := by decide +kernel
theorem hdV_X6_well : yX6_well.cls = RX6 ∧ yX6_well.cls ≠ "java/lang/invoke/MethodHandle" ∧ yX6_well.cls ≠ "java/lang/invoke/VarHandle" ∧ (parseMethodDescriptor yX6_well.desc).map (fun d => d.parameters.length) = some 4 := ⟨rfl, hdS_X6_well⟩
theorem hdS_X6_turnBy : yX6_turnBy.cls ≠ "java/lang/invoke/MethodHandle" ∧ yX6_turnBy.cls ≠ "java/lang/invoke/VarHandle" ∧ (parseMethodDescriptor yX6_turnBy.desc).map (fun d => d.parameters.length) = some 2 := by decide +kernel
theorem hdV_X6_turnBy : yX6_turnBy.cls = RX6 ∧ yX6_turnBy.cls ≠ "java/lang/invoke/MethodHandle" ∧ yX6_turnBy.cls ≠ "java/lang/invoke/VarHandle" ∧ (parseMethodDescriptor yX6_turnBy.desc).map (fun d => d.parameters.length) = some 2 := ⟨rfl, hdS_X6_turnBy⟩
theorem hdS_X6_turnOf : yX6_turnOf.cls ≠ "java/lang/invoke/MethodHandle" ∧ yX6_turnOf.cls ≠ "java/lang/invoke/VarHandle" ∧ (parseMethodDescriptor yX6_turnOf.desc).map (fun d => d.parameters.length) = some 1 := by decide +kernel
theorem hdV_X6_turnOf : yX6_turnOf.cls = RX6 ∧ yX6_turnOf.cls ≠ "java/lang/invoke/MethodHandle" ∧ yX6_turnOf.cls ≠ "java/lang/invoke/VarHandle" ∧ (parseMethodDescriptor yX6_turnOf.desc).map (fun d => d.parameters.length) = some 1 := ⟨rfl, hdS_X6_turnOf⟩
theorem hdS_X6_wishBy : yX6_wishBy.cls ≠ "java/lang/invoke/MethodHandle" ∧ yX6_wishBy.cls ≠ "java/lang/invoke/VarHandle" ∧ (parseMethodDescriptor yX6_wishBy.desc).map (fun d => d.parameters.length) = some 2 := by decide +kernel
theorem hdV_X6_wishBy : yX6_wishBy.cls = RX6 ∧ yX6_wishBy.cls ≠ "java/lang/invoke/MethodHandle" ∧ yX6_wishBy.cls ≠ "java/lang/invoke/VarHandle" ∧ (parseMethodDescriptor yX6_wishBy.desc).map (fun d => d.parameters.length) = some 2 := ⟨rfl, hdS_X6_wishBy⟩
theorem hdS_X6_wishOf : yX6_wishOf.cls ≠ "java/lang/invoke/MethodHandle" ∧ yX6_wishOf.cls ≠ "java/lang/invoke/VarHandle" ∧ (parseMethodDescriptor yX6_wishOf.desc).map (fun d => d.parameters.length) = some 1 := by decide +kernel
theorem hdV_X6_wishOf : yX6_wishOf.cls = RX6 ∧ yX6_wishOf.cls ≠ "java/lang/invoke/MethodHandle" ∧ yX6_wishOf.cls ≠ "java/lang/invoke/VarHandle" ∧ (parseMethodDescriptor yX6_wishOf.desc).map (fun d => d.parameters.length) = some 1 := ⟨rfl, hdS_X6_wishOf⟩
theorem hdS_X6_ofPin : yX6_ofPin.cls ≠ "java/lang/invoke/MethodHandle" ∧ yX6_ofPin.cls ≠ "java/lang/invoke/VarHandle" ∧ (parseMethodDescriptor yX6_ofPin.desc).map (fun d => d.parameters.length) = some 2 := by decide +kernel
theorem hdV_X6_ofPin : yX6_ofPin.cls = RX6 ∧ yX6_ofPin.cls ≠ "java/lang/invoke/MethodHandle" ∧ yX6_ofPin.cls ≠ "java/lang/invoke/VarHandle" ∧ (parseMethodDescriptor yX6_ofPin.desc).map (fun d => d.parameters.length) = some 2 := ⟨rfl, hdS_X6_ofPin⟩
theorem hdS_X6_bend : yX6_bend.cls ≠ "java/lang/invoke/MethodHandle" ∧ yX6_bend.cls ≠ "java/lang/invoke/VarHandle" ∧ (parseMethodDescriptor yX6_bend.desc).map (fun d => d.parameters.length) = some 2 := by decide +kernel
theorem hdV_X6_bend : yX6_bend.cls = RX6 ∧ yX6_bend.cls ≠ "java/lang/invoke/MethodHandle" ∧ yX6_bend.cls ≠ "java/lang/invoke/VarHandle" ∧ (parseMethodDescriptor yX6_bend.desc).map (fun d => d.parameters.length) = some 2 := ⟨rfl, hdS_X6_bend⟩
theorem hdS_X6_rekey : yX6_rekey.cls ≠ "java/lang/invoke/MethodHandle" ∧ yX6_rekey.cls ≠ "java/lang/invoke/VarHandle" ∧ (parseMethodDescriptor yX6_rekey.desc).map (fun d => d.parameters.length) = some 2 := by decide +kernel
theorem hdV_X6_rekey : yX6_rekey.cls = RX6 ∧ yX6_rekey.cls ≠ "java/lang/invoke/MethodHandle" ∧ yX6_rekey.cls ≠ "java/lang/invoke/VarHandle" ∧ (parseMethodDescriptor yX6_rekey.desc).map (fun d => d.parameters.length) = some 2 := ⟨rfl, hdS_X6_rekey⟩
theorem hdS_X6_wished : yX6_wished.cls ≠ "java/lang/invoke/MethodHandle" ∧ yX6_wished.cls ≠ "java/lang/invoke/VarHandle" ∧ (parseMethodDescriptor yX6_wished.desc).map (fun d => d.parameters.length) = some 1 := by decide +kernel
theorem hdV_X6_wished : yX6_wished.cls = RX6 ∧ yX6_wished.cls ≠ "java/lang/invoke/MethodHandle" ∧ yX6_wished.cls ≠ "java/lang/invoke/VarHandle" ∧ (parseMethodDescriptor yX6_wished.desc).map (fun d => d.parameters.length) = some 1 := ⟨rfl, hdS_X6_wished⟩
theorem hdS_X6_threw : yX6_threw.cls ≠ "java/lang/invoke/MethodHandle" ∧ yX6_threw.cls ≠ "java/lang/invoke/VarHandle" ∧ (parseMethodDescriptor yX6_threw.desc).map (fun d => d.parameters.length) = some 2 := by decide +kernel
theorem hdV_X6_threw : yX6_threw.cls = RX6 ∧ yX6_threw.cls ≠ "java/lang/invoke/MethodHandle" ∧ yX6_threw.cls ≠ "java/lang/invoke/VarHandle" ∧ (parseMethodDescriptor yX6_threw.desc).map (fun d => d.parameters.length) = some 2 := ⟨rfl, hdS_X6_threw⟩
theorem hdS_X6_throwIn : yX6_throwIn.cls ≠ "java/lang/invoke/MethodHandle" ∧ yX6_throwIn.cls ≠ "java/lang/invoke/VarHandle" ∧ (parseMethodDescriptor yX6_throwIn.desc).map (fun d => d.parameters.length) = some 2 := by decide +kernel
theorem hdV_X6_throwIn : yX6_throwIn.cls = RX6 ∧ yX6_throwIn.cls ≠ "java/lang/invoke/MethodHandle" ∧ yX6_throwIn.cls ≠ "java/lang/invoke/VarHandle" ∧ (parseMethodDescriptor yX6_throwIn.desc).map (fun d => d.parameters.length) = some 2 := ⟨rfl, hdS_X6_throwIn⟩
theorem hdS_X6_fish : yX6_fish.cls ≠ "java/lang/invoke/MethodHandle" ∧ yX6_fish.cls ≠ "java/lang/invoke/VarHandle" ∧ (parseMethodDescriptor yX6_fish.desc).map (fun d => d.parameters.length) = some 0 := by decide +kernel
theorem hdV_X6_fish : yX6_fish.cls = RX6 ∧ yX6_fish.cls ≠ "java/lang/invoke/MethodHandle" ∧ yX6_fish.cls ≠ "java/lang/invoke/VarHandle" ∧ (parseMethodDescriptor yX6_fish.desc).map (fun d => d.parameters.length) = some 0 := ⟨rfl, hdS_X6_fish⟩
theorem hdS_X6_years : yX6_years.cls ≠ "java/lang/invoke/MethodHandle" ∧ yX6_years.cls ≠ "java/lang/invoke/VarHandle" ∧ (parseMethodDescriptor yX6_years.desc).map (fun d => d.parameters.length) = some 1 := by decide +kernel
theorem hdV_X6_years : yX6_years.cls = RX6 ∧ yX6_years.cls ≠ "java/lang/invoke/MethodHandle" ∧ yX6_years.cls ≠ "java/lang/invoke/VarHandle" ∧ (parseMethodDescriptor yX6_years.desc).map (fun d => d.parameters.length) = some 1 := ⟨rfl, hdS_X6_years⟩
theorem hdS_X6_keepAll : yX6_keepAll.cls ≠ "java/lang/invoke/MethodHandle" ∧ yX6_keepAll.cls ≠ "java/lang/invoke/VarHandle" ∧ (parseMethodDescriptor yX6_keepAll.desc).map (fun d => d.parameters.length) = some 0 := by decide +kernel
theorem hdV_X6_keepAll : yX6_keepAll.cls = RX6 ∧ yX6_keepAll.cls ≠ "java/lang/invoke/MethodHandle" ∧ yX6_keepAll.cls ≠ "java/lang/invoke/VarHandle" ∧ (parseMethodDescriptor yX6_keepAll.desc).map (fun d => d.parameters.length) = some 0 := ⟨rfl, hdS_X6_keepAll⟩
theorem hdS_X6_bringBack : yX6_bringBack.cls ≠ "java/lang/invoke/MethodHandle" ∧ yX6_bringBack.cls ≠ "java/lang/invoke/VarHandle" ∧ (parseMethodDescriptor yX6_bringBack.desc).map (fun d => d.parameters.length) = some 0 := by decide +kernel
theorem hdV_X6_bringBack : yX6_bringBack.cls = RX6 ∧ yX6_bringBack.cls ≠ "java/lang/invoke/MethodHandle" ∧ yX6_bringBack.cls ≠ "java/lang/invoke/VarHandle" ∧ (parseMethodDescriptor yX6_bringBack.desc).map (fun d => d.parameters.length) = some 0 := ⟨rfl, hdS_X6_bringBack⟩
theorem hdS_X6_isPair : yX6_isPair.cls ≠ "java/lang/invoke/MethodHandle" ∧ yX6_isPair.cls ≠ "java/lang/invoke/VarHandle" ∧ (parseMethodDescriptor yX6_isPair.desc).map (fun d => d.parameters.length) = some 2 := by decide +kernel
theorem hdV_X6_isPair : yX6_isPair.cls = RX6 ∧ yX6_isPair.cls ≠ "java/lang/invoke/MethodHandle" ∧ yX6_isPair.cls ≠ "java/lang/invoke/VarHandle" ∧ (parseMethodDescriptor yX6_isPair.desc).map (fun d => d.parameters.length) = some 2 := ⟨rfl, hdS_X6_isPair⟩
theorem hdS_X6_centuryBy : yX6_centuryBy.cls ≠ "java/lang/invoke/MethodHandle" ∧ yX6_centuryBy.cls ≠ "java/lang/invoke/VarHandle" ∧ (parseMethodDescriptor yX6_centuryBy.desc).map (fun d => d.parameters.length) = some 3 := by decide +kernel
theorem hdV_X6_centuryBy : yX6_centuryBy.cls = RX6 ∧ yX6_centuryBy.cls ≠ "java/lang/invoke/MethodHandle" ∧ yX6_centuryBy.cls ≠ "java/lang/invoke/VarHandle" ∧ (parseMethodDescriptor yX6_centuryBy.desc).map (fun d => d.parameters.length) = some 3 := ⟨rfl, hdS_X6_centuryBy⟩
theorem hdS_X6_century : yX6_century.cls ≠ "java/lang/invoke/MethodHandle" ∧ yX6_century.cls ≠ "java/lang/invoke/VarHandle" ∧ (parseMethodDescriptor yX6_century.desc).map (fun d => d.parameters.length) = some 5 := by decide +kernel
theorem hdV_X6_century : yX6_century.cls = RX6 ∧ yX6_century.cls ≠ "java/lang/invoke/MethodHandle" ∧ yX6_century.cls ≠ "java/lang/invoke/VarHandle" ∧ (parseMethodDescriptor yX6_century.desc).map (fun d => d.parameters.length) = some 5 := ⟨rfl, hdS_X6_century⟩
theorem hdS_X6_quiet : yX6_quiet.cls ≠ "java/lang/invoke/MethodHandle" ∧ yX6_quiet.cls ≠ "java/lang/invoke/VarHandle" ∧ (parseMethodDescriptor yX6_quiet.desc).map (fun d => d.parameters.length) = some 1 := by decide +kernel
theorem hdV_X6_quiet : yX6_quiet.cls = RX6 ∧ yX6_quiet.cls ≠ "java/lang/invoke/MethodHandle" ∧ yX6_quiet.cls ≠ "java/lang/invoke/VarHandle" ∧ (parseMethodDescriptor yX6_quiet.desc).map (fun d => d.parameters.length) = some 1 := ⟨rfl, hdS_X6_quiet⟩
theorem hdS_X6_run : yX6_run.cls ≠ "java/lang/invoke/MethodHandle" ∧ yX6_run.cls ≠ "java/lang/invoke/VarHandle" ∧ (parseMethodDescriptor yX6_run.desc).map (fun d => d.parameters.length) = some 1 := by decide +kernel
theorem hdV_X6_run : yX6_run.cls = RX6 ∧ yX6_run.cls ≠ "java/lang/invoke/MethodHandle" ∧ yX6_run.cls ≠ "java/lang/invoke/VarHandle" ∧ (parseMethodDescriptor yX6_run.desc).map (fun d => d.parameters.length) = some 1 := ⟨rfl, hdS_X6_run⟩
theorem hdS_X6_shape : yX6_shape.cls ≠ "java/lang/invoke/MethodHandle" ∧ yX6_shape.cls ≠ "java/lang/invoke/VarHandle" ∧ (parseMethodDescriptor yX6_shape.desc).map (fun d => d.parameters.length) = some 2 := by decide +kernel
theorem hdV_X6_shape : yX6_shape.cls = RX6 ∧ yX6_shape.cls ≠ "java/lang/invoke/MethodHandle" ∧ yX6_shape.cls ≠ "java/lang/invoke/VarHandle" ∧ (parseMethodDescriptor yX6_shape.desc).map (fun d => d.parameters.length) = some 2 := ⟨rfl, hdS_X6_shape⟩
theorem hdS_X6_mayLie : yX6_mayLie.cls ≠ "java/lang/invoke/MethodHandle" ∧ yX6_mayLie.cls ≠ "java/lang/invoke/VarHandle" ∧ (parseMethodDescriptor yX6_mayLie.desc).map (fun d => d.parameters.length) = some 3 := by decide +kernel
theorem hdV_X6_mayLie : yX6_mayLie.cls = RX6 ∧ yX6_mayLie.cls ≠ "java/lang/invoke/MethodHandle" ∧ yX6_mayLie.cls ≠ "java/lang/invoke/VarHandle" ∧ (parseMethodDescriptor yX6_mayLie.desc).map (fun d => d.parameters.length) = some 3 := ⟨rfl, hdS_X6_mayLie⟩
theorem hdS_X6_countWays : yX6_countWays.cls ≠ "java/lang/invoke/MethodHandle" ∧ yX6_countWays.cls ≠ "java/lang/invoke/VarHandle" ∧ (parseMethodDescriptor yX6_countWays.desc).map (fun d => d.parameters.length) = some 1 := by decide +kernel
theorem hdV_X6_countWays : yX6_countWays.cls = RX6 ∧ yX6_countWays.cls ≠ "java/lang/invoke/MethodHandle" ∧ yX6_countWays.cls ≠ "java/lang/invoke/VarHandle" ∧ (parseMethodDescriptor yX6_countWays.desc).map (fun d => d.parameters.length) = some 1 := ⟨rfl, hdS_X6_countWays⟩
theorem hdS_X6_firstIn : yX6_firstIn.cls ≠ "java/lang/invoke/MethodHandle" ∧ yX6_firstIn.cls ≠ "java/lang/invoke/VarHandle" ∧ (parseMethodDescriptor yX6_firstIn.desc).map (fun d => d.parameters.length) = some 2 := by decide +kernel
theorem hdV_X6_firstIn : yX6_firstIn.cls = RX6 ∧ yX6_firstIn.cls ≠ "java/lang/invoke/MethodHandle" ∧ yX6_firstIn.cls ≠ "java/lang/invoke/VarHandle" ∧ (parseMethodDescriptor yX6_firstIn.desc).map (fun d => d.parameters.length) = some 2 := ⟨rfl, hdS_X6_firstIn⟩
theorem hdS_X6_layers : yX6_layers.cls ≠ "java/lang/invoke/MethodHandle" ∧ yX6_layers.cls ≠ "java/lang/invoke/VarHandle" ∧ (parseMethodDescriptor yX6_layers.desc).map (fun d => d.parameters.length) = some 4 := by decide +kernel
theorem hdV_X6_layers : yX6_layers.cls = RX6 ∧ yX6_layers.cls ≠ "java/lang/invoke/MethodHandle" ∧ yX6_layers.cls ≠ "java/lang/invoke/VarHandle" ∧ (parseMethodDescriptor yX6_layers.desc).map (fun d => d.parameters.length) = some 4 := ⟨rfl, hdS_X6_layers⟩
theorem hdS_X6_reading : yX6_reading.cls ≠ "java/lang/invoke/MethodHandle" ∧ yX6_reading.cls ≠ "java/lang/invoke/VarHandle" ∧ (parseMethodDescriptor yX6_reading.desc).map (fun d => d.parameters.length) = some 2 := by decide +kernel
theorem hdV_X6_reading : yX6_reading.cls = RX6 ∧ yX6_reading.cls ≠ "java/lang/invoke/MethodHandle" ∧ yX6_reading.cls ≠ "java/lang/invoke/VarHandle" ∧ (parseMethodDescriptor yX6_reading.desc).map (fun d => d.parameters.length) = some 2 := ⟨rfl, hdS_X6_reading⟩
theorem hdS_X6_back : yX6_back.cls ≠ "java/lang/invoke/MethodHandle" ∧ yX6_back.cls ≠ "java/lang/invoke/VarHandle" ∧ (parseMethodDescriptor yX6_back.desc).map (fun d => d.parameters.length) = some 1 := by decide +kernel
theorem hdV_X6_back : yX6_back.cls = RX6 ∧ yX6_back.cls ≠ "java/lang/invoke/MethodHandle" ∧ yX6_back.cls ≠ "java/lang/invoke/VarHandle" ∧ (parseMethodDescriptor yX6_back.desc).map (fun d => d.parameters.length) = some 1 := ⟨rfl, hdS_X6_back⟩
theorem hdS_X6_areSo : yX6_areSo.cls ≠ "java/lang/invoke/MethodHandle" ∧ yX6_areSo.cls ≠ "java/lang/invoke/VarHandle" ∧ (parseMethodDescriptor yX6_areSo.desc).map (fun d => d.parameters.length) = some 0 := by decide +kernel
theorem hdV_X6_areSo : yX6_areSo.cls = RX6 ∧ yX6_areSo.cls ≠ "java/lang/invoke/MethodHandle" ∧ yX6_areSo.cls ≠ "java/lang/invoke/VarHandle" ∧ (parseMethodDescriptor yX6_areSo.desc).map (fun d => d.parameters.length) = some 0 := ⟨rfl, hdS_X6_areSo⟩
theorem hdS_X6_bends : yX6_bends.cls ≠ "java/lang/invoke/MethodHandle" ∧ yX6_bends.cls ≠ "java/lang/invoke/VarHandle" ∧ (parseMethodDescriptor yX6_bends.desc).map (fun d => d.parameters.length) = some 1 := by decide +kernel
theorem hdV_X6_bends : yX6_bends.cls = RX6 ∧ yX6_bends.cls ≠ "java/lang/invoke/MethodHandle" ∧ yX6_bends.cls ≠ "java/lang/invoke/VarHandle" ∧ (parseMethodDescriptor yX6_bends.desc).map (fun d => d.parameters.length) = some 1 := ⟨rfl, hdS_X6_bends⟩
theorem hdS_X6_kinds : yX6_kinds.cls ≠ "java/lang/invoke/MethodHandle" ∧ yX6_kinds.cls ≠ "java/lang/invoke/VarHandle" ∧ (parseMethodDescriptor yX6_kinds.desc).map (fun d => d.parameters.length) = some 1 := by decide +kernel
theorem hdV_X6_kinds : yX6_kinds.cls = RX6 ∧ yX6_kinds.cls ≠ "java/lang/invoke/MethodHandle" ∧ yX6_kinds.cls ≠ "java/lang/invoke/VarHandle" ∧ (parseMethodDescriptor yX6_kinds.desc).map (fun d => d.parameters.length) = some 1 := ⟨rfl, hdS_X6_kinds⟩
theorem hdS_X6_keys : yX6_keys.cls ≠ "java/lang/invoke/MethodHandle" ∧ yX6_keys.cls ≠ "java/lang/invoke/VarHandle" ∧ (parseMethodDescriptor yX6_keys.desc).map (fun d => d.parameters.length) = some 1 := by decide +kernel
theorem hdV_X6_keys : yX6_keys.cls = RX6 ∧ yX6_keys.cls ≠ "java/lang/invoke/MethodHandle" ∧ yX6_keys.cls ≠ "java/lang/invoke/VarHandle" ∧ (parseMethodDescriptor yX6_keys.desc).map (fun d => d.parameters.length) = some 1 := ⟨rfl, hdS_X6_keys⟩
theorem hdS_X6_odds : yX6_odds.cls ≠ "java/lang/invoke/MethodHandle" ∧ yX6_odds.cls ≠ "java/lang/invoke/VarHandle" ∧ (parseMethodDescriptor yX6_odds.desc).map (fun d => d.parameters.length) = some 3 := by decide +kernel
theorem hdV_X6_odds : yX6_odds.cls = RX6 ∧ yX6_odds.cls ≠ "java/lang/invoke/MethodHandle" ∧ yX6_odds.cls ≠ "java/lang/invoke/VarHandle" ∧ (parseMethodDescriptor yX6_odds.desc).map (fun d => d.parameters.length) = some 3 := ⟨rfl, hdS_X6_odds⟩
theorem hdS_X6_noSheet : yX6_noSheet.cls ≠ "java/lang/invoke/MethodHandle" ∧ yX6_noSheet.cls ≠ "java/lang/invoke/VarHandle" ∧ (parseMethodDescriptor yX6_noSheet.desc).map (fun d => d.parameters.length) = some 1 := by decide +kernel
theorem hdV_X6_noSheet : yX6_noSheet.cls = RX6 ∧ yX6_noSheet.cls ≠ "java/lang/invoke/MethodHandle" ∧ yX6_noSheet.cls ≠ "java/lang/invoke/VarHandle" ∧ (parseMethodDescriptor yX6_noSheet.desc).map (fun d => d.parameters.length) = some 1 := ⟨rfl, hdS_X6_noSheet⟩
theorem hdS_X6_sheet : yX6_sheet.cls ≠ "java/lang/invoke/MethodHandle" ∧ yX6_sheet.cls ≠ "java/lang/invoke/VarHandle" ∧ (parseMethodDescriptor yX6_sheet.desc).map (fun d => d.parameters.length) = some 3 := by decide +kernel
theorem hdV_X6_sheet : yX6_sheet.cls = RX6 ∧ yX6_sheet.cls ≠ "java/lang/invoke/MethodHandle" ∧ yX6_sheet.cls ≠ "java/lang/invoke/VarHandle" ∧ (parseMethodDescriptor yX6_sheet.desc).map (fun d => d.parameters.length) = some 3 := ⟨rfl, hdS_X6_sheet⟩
theorem hdS_X6_lose : yX6_lose.cls ≠ "java/lang/invoke/MethodHandle" ∧ yX6_lose.cls ≠ "java/lang/invoke/VarHandle" ∧ (parseMethodDescriptor yX6_lose.desc).map (fun d => d.parameters.length) = some 1 := by decide +kernel
theorem hdV_X6_lose : yX6_lose.cls = RX6 ∧ yX6_lose.cls ≠ "java/lang/invoke/MethodHandle" ∧ yX6_lose.cls ≠ "java/lang/invoke/VarHandle" ∧ (parseMethodDescriptor yX6_lose.desc).map (fun d => d.parameters.length) = some 1 := ⟨rfl, hdS_X6_lose⟩
theorem hdS_X6_noCell : yX6_noCell.cls ≠ "java/lang/invoke/MethodHandle" ∧ yX6_noCell.cls ≠ "java/lang/invoke/VarHandle" ∧ (parseMethodDescriptor yX6_noCell.desc).map (fun d => d.parameters.length) = some 2 := by decide +kernel
theorem hdV_X6_noCell : yX6_noCell.cls = RX6 ∧ yX6_noCell.cls ≠ "java/lang/invoke/MethodHandle" ∧ yX6_noCell.cls ≠ "java/lang/invoke/VarHandle" ∧ (parseMethodDescriptor yX6_noCell.desc).map (fun d => d.parameters.length) = some 2 := ⟨rfl, hdS_X6_noCell⟩
theorem hdS_X6_put : yX6_put.cls ≠ "java/lang/invoke/MethodHandle" ∧ yX6_put.cls ≠ "java/lang/invoke/VarHandle" ∧ (parseMethodDescriptor yX6_put.desc).map (fun d => d.parameters.length) = some 3 := by decide +kernel
theorem hdV_X6_put : yX6_put.cls = RX6 ∧ yX6_put.cls ≠ "java/lang/invoke/MethodHandle" ∧ yX6_put.cls ≠ "java/lang/invoke/VarHandle" ∧ (parseMethodDescriptor yX6_put.desc).map (fun d => d.parameters.length) = some 3 := ⟨rfl, hdS_X6_put⟩
theorem hdS_X6_cell : yX6_cell.cls ≠ "java/lang/invoke/MethodHandle" ∧ yX6_cell.cls ≠ "java/lang/invoke/VarHandle" ∧ (parseMethodDescriptor yX6_cell.desc).map (fun d => d.parameters.length) = some 3 := by decide +kernel
theorem hdV_X6_cell : yX6_cell.cls = RX6 ∧ yX6_cell.cls ≠ "java/lang/invoke/MethodHandle" ∧ yX6_cell.cls ≠ "java/lang/invoke/VarHandle" ∧ (parseMethodDescriptor yX6_cell.desc).map (fun d => d.parameters.length) = some 3 := ⟨rfl, hdS_X6_cell⟩
theorem hdS_X6_isBeyond : yX6_isBeyond.cls ≠ "java/lang/invoke/MethodHandle" ∧ yX6_isBeyond.cls ≠ "java/lang/invoke/VarHandle" ∧ (parseMethodDescriptor yX6_isBeyond.desc).map (fun d => d.parameters.length) = some 3 := by decide +kernel
theorem hdV_X6_isBeyond : yX6_isBeyond.cls = RX6 ∧ yX6_isBeyond.cls ≠ "java/lang/invoke/MethodHandle" ∧ yX6_isBeyond.cls ≠ "java/lang/invoke/VarHandle" ∧ (parseMethodDescriptor yX6_isBeyond.desc).map (fun d => d.parameters.length) = some 3 := ⟨rfl, hdS_X6_isBeyond⟩
theorem hdS_X6_copy : yX6_copy.cls ≠ "java/lang/invoke/MethodHandle" ∧ yX6_copy.cls ≠ "java/lang/invoke/VarHandle" ∧ (parseMethodDescriptor yX6_copy.desc).map (fun d => d.parameters.length) = some 5 := by decide +kernel
theorem hdV_X6_copy : yX6_copy.cls = RX6 ∧ yX6_copy.cls ≠ "java/lang/invoke/MethodHandle" ∧ yX6_copy.cls ≠ "java/lang/invoke/VarHandle" ∧ (parseMethodDescriptor yX6_copy.desc).map (fun d => d.parameters.length) = some 5 := ⟨rfl, hdS_X6_copy⟩
theorem hdS_X6_traced : yX6_traced.cls ≠ "java/lang/invoke/MethodHandle" ∧ yX6_traced.cls ≠ "java/lang/invoke/VarHandle" ∧ (parseMethodDescriptor yX6_traced.desc).map (fun d => d.parameters.length) = some 1 := by decide +kernel
theorem hdV_X6_traced : yX6_traced.cls = RX6 ∧ yX6_traced.cls ≠ "java/lang/invoke/MethodHandle" ∧ yX6_traced.cls ≠ "java/lang/invoke/VarHandle" ∧ (parseMethodDescriptor yX6_traced.desc).map (fun d => d.parameters.length) = some 1 := ⟨rfl, hdS_X6_traced⟩
theorem hdS_X6_tell : yX6_tell.cls ≠ "java/lang/invoke/MethodHandle" ∧ yX6_tell.cls ≠ "java/lang/invoke/VarHandle" ∧ (parseMethodDescriptor yX6_tell.desc).map (fun d => d.parameters.length) = some 1 := by decide +kernel
theorem hdV_X6_tell : yX6_tell.cls = RX6 ∧ yX6_tell.cls ≠ "java/lang/invoke/MethodHandle" ∧ yX6_tell.cls ≠ "java/lang/invoke/VarHandle" ∧ (parseMethodDescriptor yX6_tell.desc).map (fun d => d.parameters.length) = some 1 := ⟨rfl, hdS_X6_tell⟩
theorem hdS_X6_splash : yX6_splash.cls ≠ "java/lang/invoke/MethodHandle" ∧ yX6_splash.cls ≠ "java/lang/invoke/VarHandle" ∧ (parseMethodDescriptor yX6_splash.desc).map (fun d => d.parameters.length) = some 1 := by decide +kernel
theorem hdV_X6_splash : yX6_splash.cls = RX6 ∧ yX6_splash.cls ≠ "java/lang/invoke/MethodHandle" ∧ yX6_splash.cls ≠ "java/lang/invoke/VarHandle" ∧ (parseMethodDescriptor yX6_splash.desc).map (fun d => d.parameters.length) = some 1 := ⟨rfl, hdS_X6_splash⟩
theorem hdS_X6_as : yX6_as.cls ≠ "java/lang/invoke/MethodHandle" ∧ yX6_as.cls ≠ "java/lang/invoke/VarHandle" ∧ (parseMethodDescriptor yX6_as.desc).map (fun d => d.parameters.length) = some 2 := by decide +kernel
theorem hdV_X6_as : yX6_as.cls = RX6 ∧ yX6_as.cls ≠ "java/lang/invoke/MethodHandle" ∧ yX6_as.cls ≠ "java/lang/invoke/VarHandle" ∧ (parseMethodDescriptor yX6_as.desc).map (fun d => d.parameters.length) = some 2 := ⟨rfl, hdS_X6_as⟩
theorem hdS_X6_trace : yX6_trace.cls ≠ "java/lang/invoke/MethodHandle" ∧ yX6_trace.cls ≠ "java/lang/invoke/VarHandle" ∧ (parseMethodDescriptor yX6_trace.desc).map (fun d => d.parameters.length) = some 0 := by decide +kernel
theorem hdV_X6_trace : yX6_trace.cls = RX6 ∧ yX6_trace.cls ≠ "java/lang/invoke/MethodHandle" ∧ yX6_trace.cls ≠ "java/lang/invoke/VarHandle" ∧ (parseMethodDescriptor yX6_trace.desc).map (fun d => d.parameters.length) = some 0 := ⟨rfl, hdS_X6_trace⟩
theorem hdS_X6_fault : yX6_fault.cls ≠ "java/lang/invoke/MethodHandle" ∧ yX6_fault.cls ≠ "java/lang/invoke/VarHandle" ∧ (parseMethodDescriptor yX6_fault.desc).map (fun d => d.parameters.length) = some 0 := by decide +kernel
theorem hdV_X6_fault : yX6_fault.cls = RX6 ∧ yX6_fault.cls ≠ "java/lang/invoke/MethodHandle" ∧ yX6_fault.cls ≠ "java/lang/invoke/VarHandle" ∧ (parseMethodDescriptor yX6_fault.desc).map (fun d => d.parameters.length) = some 0 := ⟨rfl, hdS_X6_fault⟩
theorem hdS_X6_many : yX6_many.cls ≠ "java/lang/invoke/MethodHandle" ∧ yX6_many.cls ≠ "java/lang/invoke/VarHandle" ∧ (parseMethodDescriptor yX6_many.desc).map (fun d => d.parameters.length) = some 1 := by decide +kernel
theorem hdV_X6_many : yX6_many.cls = RX6 ∧ yX6_many.cls ≠ "java/lang/invoke/MethodHandle" ∧ yX6_many.cls ≠ "java/lang/invoke/VarHandle" ∧ (parseMethodDescriptor yX6_many.desc).map (fun d => d.parameters.length) = some 1 := ⟨rfl, hdS_X6_many⟩
theorem hdS_J9_floorMod_7cf53 : yJ9_floorMod_7cf53.cls ≠ "java/lang/invoke/MethodHandle" ∧ yJ9_floorMod_7cf53.cls ≠ "java/lang/invoke/VarHandle" ∧ (parseMethodDescriptor yJ9_floorMod_7cf53.desc).map (fun d => d.parameters.length) = some 2 := by decide +kernel
theorem hdV_J9_floorMod_7cf53 : yJ9_floorMod_7cf53.cls = RJ9 ∧ yJ9_floorMod_7cf53.cls ≠ "java/lang/invoke/MethodHandle" ∧ yJ9_floorMod_7cf53.cls ≠ "java/lang/invoke/VarHandle" ∧ (parseMethodDescriptor yJ9_floorMod_7cf53.desc).map (fun d => d.parameters.length) = some 2 := ⟨rfl, hdS_J9_floorMod_7cf53⟩
theorem z_lkout2 {x : Int32} {dflt o0 o1 : Int} (h0 : ¬ x = (0 : Int32)) (h1 : ¬ x = (1 : Int32)) : Op.lookupswitch.offset [(0, o0), (1, o1)] dflt x.toInt = dflt := by
  have n0 := zne h0 (z := 0) (by decide)
  have n1 := zne h1 (z := 1) (by decide)
  rw [Op.lookupswitch.offset_cons, if_neg (fun e => n0 e.symm), Op.lookupswitch.offset_cons, if_neg (fun e => n1 e.symm), Op.lookupswitch.offset_nil]
theorem z_bool {v : Int32} (h : v = 0 ∨ v = 1) : narrow .boolean (.int v) = .int v := by rcases h with rfl | rfl <;> rfl
theorem z_in {k : Int32} {n : Nat} {N : Int32} (hN : N.toInt = n) (h0 : ¬ k < 0) (h : k < N) : vp_in k n := by
  rw [vp_in_iff]
  have h1 := Int32.lt_iff_toInt_lt.mp h
  have h2 : ¬ k.toInt < (0 : Int32).toInt := fun q => h0 (Int32.lt_iff_toInt_lt.mpr q)
  have h3 : (0 : Int32).toInt = 0 := by decide
  rw [h3] at h2
  omega
theorem z_jlt {x N : Int32} {j n : Nat} (e : x = nI j) (hj : j < 2 ^ 31) (hN : N.toInt = n) (h : ¬ N ≤ x) : j < n := by
  have h1 := Int32.lt_iff_toInt_lt.mp (Int32.not_le.mp h)
  rw [e, nI_toInt hj, hN] at h1
  omega
theorem z_jle {x N : Int32} {j n : Nat} (e : x = nI j) (hj : j < 2 ^ 31) (hN : N.toInt = n) (h : ¬ N < x) : j ≤ n := by
  have h1 : ¬ N.toInt < x.toInt := fun q => h (Int32.lt_iff_toInt_lt.mpr q)
  rw [e, nI_toInt hj, hN] at h1
  omega
theorem z_jge {x N : Int32} {j n : Nat} (e : x = nI j) (hj : j < 2 ^ 31) (hN : N.toInt = n) (h : N ≤ x) : n ≤ j := by
  have h1 := Int32.le_iff_toInt_le.mp h
  rw [e, nI_toInt hj, hN] at h1
  omega
theorem z_jgt {x N : Int32} {j n : Nat} (e : x = nI j) (hj : j < 2 ^ 31) (hN : N.toInt = n) (h : N < x) : n < j := by
  have h1 := Int32.lt_iff_toInt_lt.mp h
  rw [e, nI_toInt hj, hN] at h1
  omega
theorem z_tiN {x : Int32} {n : Nat} (e : x = nI n) (h : n < 2 ^ 31) : x.toInt = n := by rw [e]; exact nI_toInt h
theorem z_add {x k : Int32} {a b : Nat} (e : x = nI a) (hk : k = nI b) : x + k = nI (a + b) := by rw [e, hk]; exact nI_add a b
theorem z_ixN {x : Int32} {j n : Nat} (e : x = nI j) (h : j < n) (hn : n < 2 ^ 31) : vp_in x n := by rw [e]; exact vp_in_nI h hn
end
section
-- X5_turnOf
def F_X5_turnOf (k : Int32) (b : Int32) : Int32 :=
  (if k = 0 then b else (if k = (1 : Int32) then (b + (1 : Int32)) else ((2 : Int32) * (b + (1 : Int32)))))
set_option maxHeartbeats 4000000 in
set_option maxRecDepth 100000 in
theorem c_X5_turnOf (l : Launch) (D : va_G) (cI cO : ClassId) (k : Int32) (b : Int32) : zR l yX5_turnOf wsX5_turnOf ({ frames := 0, cells := 0, slots := 0, locals := 0 } : Room) D cI cO [.int k, .int b] [] (some (.int (F_X5_turnOf k b))) := by
  refine zR_of (nL := 2) (cc := cX5_turnOf) (ret := some .int) (lv := [(0, .int k), (1, .int b)]) (by decide +kernel) rfl (Nat.le_of_ble_eq_true rfl) rfl (fun p e s m args below meth c C hr hlk => ?_)
  have hf := F_X5_turnOf.eq_1 k b
  refine z_iload_n C dX5_turnOf_0 rfl 0 rfl ?_
  refine z_if_ne (tgt := 6) C dX5_turnOf_1 (by decide) (fun c1 => ?_) (fun c1 => ?_)
  · rw [if_neg c1] at hf
    refine z_iload_n C dX5_turnOf_6 rfl 0 rfl ?_
    refine z_iconst (v := (1 : Int32)) C dX5_turnOf_7 (by decide) ?_
    refine z_icmp_ne (tgt := 17) C dX5_turnOf_8 (by decide) (fun c8 => ?_) (fun c8 => ?_)
    · rw [if_neg c8] at hf
      refine z_iconst (v := (2 : Int32)) C dX5_turnOf_17 (by decide) ?_
      refine z_iload_n C dX5_turnOf_18 rfl 1 rfl ?_
      refine z_iconst (v := (1 : Int32)) C dX5_turnOf_19 (by decide) ?_
      refine z_iadd C dX5_turnOf_20 ?_
      refine z_imul C dX5_turnOf_21 ?_
      exact z_iretR C hr hlk (by rw [hf]) dX5_turnOf_22
    · rw [if_pos c8] at hf
      refine z_iload_n C dX5_turnOf_11 rfl 1 rfl ?_
      refine z_iconst (v := (1 : Int32)) C dX5_turnOf_12 (by decide) ?_
      refine z_iadd C dX5_turnOf_13 ?_
      refine z_goto (tgt := 22) C dX5_turnOf_14 (by decide) ?_
      exact z_iretR C hr hlk (by rw [hf]) dX5_turnOf_22
  · rw [if_pos c1] at hf
    refine z_iload_n C dX5_turnOf_4 rfl 1 rfl ?_
    exact z_iretR C hr hlk (by rw [hf]) dX5_turnOf_5
-- X5_wishOf
def F_X5_wishOf (a : Int32) (t : Int32) (b : Int32) (y : Int32) : Int32 :=
  (((a * t) + (b * y)) - ((a * t) + (b * y)) / (6 : Int32) * (6 : Int32))
set_option maxHeartbeats 4000000 in
set_option maxRecDepth 100000 in
theorem c_X5_wishOf (l : Launch) (D : va_G) (cI cO : ClassId) (a : Int32) (t : Int32) (b : Int32) (y : Int32) : zR l yX5_wishOf wsX5_wishOf ({ frames := 0, cells := 0, slots := 0, locals := 0 } : Room) D cI cO [.int a, .int t, .int b, .int y] [] (some (.int (F_X5_wishOf a t b y))) := by
  refine zR_of (nL := 4) (cc := cX5_wishOf) (ret := some .int) (lv := [(0, .int a), (1, .int t), (2, .int b), (3, .int y)]) (by decide +kernel) rfl (Nat.le_of_ble_eq_true rfl) rfl (fun p e s m args below meth c C hr hlk => ?_)
  have hf := F_X5_wishOf.eq_1 a t b y
  refine z_iload_n C dX5_wishOf_0 rfl 0 rfl ?_
  refine z_iload_n C dX5_wishOf_1 rfl 1 rfl ?_
  refine z_imul C dX5_wishOf_2 ?_
  refine z_iload_n C dX5_wishOf_3 rfl 2 rfl ?_
  refine z_iload_n C dX5_wishOf_4 rfl 3 rfl ?_
  refine z_imul C dX5_wishOf_5 ?_
  refine z_iadd C dX5_wishOf_6 ?_
  refine z_bipush (v := (6 : Int32)) C dX5_wishOf_7 (by decide) ?_
  refine z_irem C dX5_wishOf_9 (by decide) ?_
  exact z_iretR C hr hlk (by rw [hf]) dX5_wishOf_10
-- X4_isPin
theorem i_X4_isPin_4 : ∀ w ∈ u_ws RX4 TX4 7, w ∈ wsX4_isPin := by decide +kernel
theorem m_X4_isPin_1 : Cond.fieldLink RX4 34 "WishPins$Well" "pins" "I" ∈ wsX4_isPin := List.mem_of_getElem? (i := 1) rfl
def F_X4_isPin (pn : Int32) (k : Int32) : Int32 :=
  (if k < 0 then (0 : Int32) else (if pn ≤ k then (0 : Int32) else (if (9 : Int32) ≤ k then (0 : Int32) else (1 : Int32))))
set_option maxHeartbeats 4000000 in
set_option maxRecDepth 100000 in
theorem c_X4_isPin (l : Launch) (D : va_G) (cI cO : ClassId) (h4 : Nat) (a1 : Nat) (a2 : Nat) (a3 : Nat) (pn : Int32) (sl : Int32) (dr : Int32) (nw : Int32) (k : Int32) : zR l yX4_isPin wsX4_isPin ({ frames := 0, cells := 0, slots := 0, locals := 0 } : Room) D cI cO [.ref h4, .int k] [(h4, .inr (4, [.ref a1, .ref a2, .ref a3, .int pn, .int sl, .int dr, .int nw]))] (some (.int (F_X4_isPin pn k))) := by
  refine zR_of (nL := 2) (cc := cX4_isPin) (ret := some .boolean) (lv := [(0, .ref h4), (1, .int k)]) (by decide +kernel) rfl (Nat.le_of_ble_eq_true rfl) rfl (fun p e s m args below meth c C hr hlk => ?_)
  have hf := F_X4_isPin.eq_1 pn k
  refine z_iload_n C dX4_isPin_0 rfl 1 rfl ?_
  refine z_if_lt (tgt := 22) C dX4_isPin_1 (by decide) (fun c1 => ?_) (fun c1 => ?_)
  · rw [if_pos c1] at hf
    refine z_iconst (v := (0 : Int32)) C dX4_isPin_22 (by decide) ?_
    exact z_zretR C hr hlk rfl (by rw [hf]) dX4_isPin_23
  · rw [if_neg c1] at hf
    refine z_iload_n C dX4_isPin_4 rfl 1 rfl ?_
    refine z_aload_n C dX4_isPin_5 rfl 0 rfl ?_
    refine z_get (T := TX4) (v := .int pn) C i_X4_isPin_4 0 rfl rfl 3 (by decide) m_X4_isPin_1 rfl rfl dX4_isPin_6 ?_
    refine z_icmp_ge (tgt := 22) C dX4_isPin_9 (by decide) (fun c9 => ?_) (fun c9 => ?_)
    · rw [if_pos c9] at hf
      refine z_iconst (v := (0 : Int32)) C dX4_isPin_22 (by decide) ?_
      exact z_zretR C hr hlk rfl (by rw [hf]) dX4_isPin_23
    · rw [if_neg c9] at hf
      refine z_iload_n C dX4_isPin_12 rfl 1 rfl ?_
      refine z_bipush (v := (9 : Int32)) C dX4_isPin_13 (by decide) ?_
      refine z_icmp_ge (tgt := 22) C dX4_isPin_15 (by decide) (fun c15 => ?_) (fun c15 => ?_)
      · rw [if_pos c15] at hf
        refine z_iconst (v := (0 : Int32)) C dX4_isPin_22 (by decide) ?_
        exact z_zretR C hr hlk rfl (by rw [hf]) dX4_isPin_23
      · rw [if_neg c15] at hf
        refine z_iconst (v := (1 : Int32)) C dX4_isPin_18 (by decide) ?_
        refine z_goto (tgt := 23) C dX4_isPin_19 (by decide) ?_
        exact z_zretR C hr hlk rfl (by rw [hf]) dX4_isPin_23
theorem isPin_in {pn k : Int32} (h : ¬ F_X4_isPin pn k = 0) : ¬ k < 0 ∧ k < pn ∧ k < 9 := by
  rw [F_X4_isPin] at h
  by_cases c1 : k < 0
  · rw [if_pos c1] at h; exact absurd rfl h
  · rw [if_neg c1] at h
    by_cases c2 : pn ≤ k
    · rw [if_pos c2] at h; exact absurd rfl h
    · rw [if_neg c2] at h
      by_cases c3 : (9 : Int32) ≤ k
      · rw [if_pos c3] at h; exact absurd rfl h
      · exact ⟨c1, Int32.not_le.mp c2, Int32.not_le.mp c3⟩
theorem isPin_ix {pn k : Int32} (h : ¬ F_X4_isPin pn k = 0) : vp_in k 9 := z_in (N := 9) (by decide) (isPin_in h).1 (isPin_in h).2.2
-- X4_kindAt
theorem i_X4_kindAt_4 : ∀ w ∈ u_ws RX4 TX4 7, w ∈ wsX4_kindAt := by decide +kernel
theorem m_X4_kindAt_1 : Cond.fieldLink RX4 9 "WishPins$Well" "kind" "[I" ∈ wsX4_kindAt := List.mem_of_getElem? (i := 1) rfl
def F_X4_kindAt (pn : Int32) (kd : Nat → Int32) (k : Int32) : Int32 :=
  (if (F_X4_isPin pn k) = 0 then (-9 : Int32) else (kd k.toNatClampNeg))
set_option maxHeartbeats 4000000 in
set_option maxRecDepth 100000 in
theorem c_X4_kindAt (l : Launch) (D : va_G) (cI cO : ClassId) (h4 : Nat) (a1 : Nat) (a2 : Nat) (a3 : Nat) (pn : Int32) (sl : Int32) (dr : Int32) (nw : Int32) (kd : Nat → Int32) (k : Int32) : zR l yX4_kindAt wsX4_kindAt ({ frames := 1, cells := 0, slots := 0, locals := 21 } : Room) D cI cO [.ref h4, .int k] [(h4, .inr (4, [.ref a1, .ref a2, .ref a3, .int pn, .int sl, .int dr, .int nw])), (a1, .inl (cI, 9, .inl kd))] (some (.int (F_X4_kindAt pn kd k))) := by
  refine zR_of (nL := 2) (cc := cX4_kindAt) (ret := some .int) (lv := [(0, .ref h4), (1, .int k)]) (by decide +kernel) rfl (Nat.le_of_ble_eq_true rfl) rfl (fun p e s m args below meth c C hr hlk => ?_)
  have hf := F_X4_kindAt.eq_1 pn kd k
  refine z_aload_n C dX4_kindAt_0 rfl 0 rfl ?_
  refine z_iload_n C dX4_kindAt_1 rfl 1 rfl ?_
  refine z_cVR (As := [.int k]) C (c_X4_isPin l D cI cO h4 a1 a2 a3 pn sl dr nw k) (cwV 1 C.2.2.2.2.1 gX4_kindAt_X4_isPin rfl rfl rfl hdV_X4_isPin ⟨Nat.le_of_ble_eq_true rfl, Nat.le_of_ble_eq_true rfl⟩) [0] rfl rfl 0 rfl rfl rfl _ rfl (Nat.le_of_ble_eq_true rfl) ⟨Nat.zero_le _, Nat.zero_le _⟩ dX4_kindAt_2 ?_
  refine z_if_eq (tgt := 17) C dX4_kindAt_5 (by decide) (fun c5 => ?_) (fun c5 => ?_)
  · rw [if_pos c5] at hf
    refine z_bipush (v := (-9 : Int32)) C dX4_kindAt_17 (by decide) ?_
    exact z_iretR C hr hlk (by rw [hf]) dX4_kindAt_19
  · rw [if_neg c5] at hf
    refine z_aload_n C dX4_kindAt_8 rfl 0 rfl ?_
    refine z_get (T := TX4) (v := .ref a1) C i_X4_kindAt_4 0 rfl rfl 0 (by decide) m_X4_kindAt_1 rfl rfl dX4_kindAt_9 ?_
    refine z_iload_n C dX4_kindAt_12 rfl 1 rfl ?_
    refine z_ald C 1 rfl (isPin_ix c5) dX4_kindAt_13 ?_
    refine z_goto (tgt := 19) C dX4_kindAt_14 (by decide) ?_
    exact z_iretR C hr hlk (by rw [hf]) dX4_kindAt_19
-- X4_bendAt
theorem i_X4_bendAt_4 : ∀ w ∈ u_ws RX4 TX4 7, w ∈ wsX4_bendAt := by decide +kernel
theorem m_X4_bendAt_1 : Cond.fieldLink RX4 15 "WishPins$Well" "bend" "[I" ∈ wsX4_bendAt := List.mem_of_getElem? (i := 1) rfl
def F_X4_bendAt (pn : Int32) (bd : Nat → Int32) (k : Int32) : Int32 :=
  (if (F_X4_isPin pn k) = 0 then (-9 : Int32) else (bd k.toNatClampNeg))
set_option maxHeartbeats 4000000 in
set_option maxRecDepth 100000 in
theorem c_X4_bendAt (l : Launch) (D : va_G) (cI cO : ClassId) (h4 : Nat) (a1 : Nat) (a2 : Nat) (a3 : Nat) (pn : Int32) (sl : Int32) (dr : Int32) (nw : Int32) (bd : Nat → Int32) (k : Int32) : zR l yX4_bendAt wsX4_bendAt ({ frames := 1, cells := 0, slots := 0, locals := 21 } : Room) D cI cO [.ref h4, .int k] [(h4, .inr (4, [.ref a1, .ref a2, .ref a3, .int pn, .int sl, .int dr, .int nw])), (a2, .inl (cI, 9, .inl bd))] (some (.int (F_X4_bendAt pn bd k))) := by
  refine zR_of (nL := 2) (cc := cX4_bendAt) (ret := some .int) (lv := [(0, .ref h4), (1, .int k)]) (by decide +kernel) rfl (Nat.le_of_ble_eq_true rfl) rfl (fun p e s m args below meth c C hr hlk => ?_)
  have hf := F_X4_bendAt.eq_1 pn bd k
  refine z_aload_n C dX4_bendAt_0 rfl 0 rfl ?_
  refine z_iload_n C dX4_bendAt_1 rfl 1 rfl ?_
  refine z_cVR (As := [.int k]) C (c_X4_isPin l D cI cO h4 a1 a2 a3 pn sl dr nw k) (cwV 1 C.2.2.2.2.1 gX4_bendAt_X4_isPin rfl rfl rfl hdV_X4_isPin ⟨Nat.le_of_ble_eq_true rfl, Nat.le_of_ble_eq_true rfl⟩) [0] rfl rfl 0 rfl rfl rfl _ rfl (Nat.le_of_ble_eq_true rfl) ⟨Nat.zero_le _, Nat.zero_le _⟩ dX4_bendAt_2 ?_
  refine z_if_eq (tgt := 17) C dX4_bendAt_5 (by decide) (fun c5 => ?_) (fun c5 => ?_)
  · rw [if_pos c5] at hf
    refine z_bipush (v := (-9 : Int32)) C dX4_bendAt_17 (by decide) ?_
    exact z_iretR C hr hlk (by rw [hf]) dX4_bendAt_19
  · rw [if_neg c5] at hf
    refine z_aload_n C dX4_bendAt_8 rfl 0 rfl ?_
    refine z_get (T := TX4) (v := .ref a2) C i_X4_bendAt_4 0 rfl rfl 1 (by decide) m_X4_bendAt_1 rfl rfl dX4_bendAt_9 ?_
    refine z_iload_n C dX4_bendAt_12 rfl 1 rfl ?_
    refine z_ald C 1 rfl (isPin_ix c5) dX4_bendAt_13 ?_
    refine z_goto (tgt := 19) C dX4_bendAt_14 (by decide) ?_
    exact z_iretR C hr hlk (by rw [hf]) dX4_bendAt_19
-- X4_yearAt
theorem i_X4_yearAt_4 : ∀ w ∈ u_ws RX4 TX4 7, w ∈ wsX4_yearAt := by decide +kernel
theorem m_X4_yearAt_1 : Cond.fieldLink RX4 18 "WishPins$Well" "year" "[I" ∈ wsX4_yearAt := List.mem_of_getElem? (i := 1) rfl
def F_X4_yearAt (pn : Int32) (yr : Nat → Int32) (k : Int32) : Int32 :=
  (if (F_X4_isPin pn k) = 0 then (-9 : Int32) else (yr k.toNatClampNeg))
set_option maxHeartbeats 4000000 in
set_option maxRecDepth 100000 in
theorem c_X4_yearAt (l : Launch) (D : va_G) (cI cO : ClassId) (h4 : Nat) (a1 : Nat) (a2 : Nat) (a3 : Nat) (pn : Int32) (sl : Int32) (dr : Int32) (nw : Int32) (yr : Nat → Int32) (k : Int32) : zR l yX4_yearAt wsX4_yearAt ({ frames := 1, cells := 0, slots := 0, locals := 21 } : Room) D cI cO [.ref h4, .int k] [(h4, .inr (4, [.ref a1, .ref a2, .ref a3, .int pn, .int sl, .int dr, .int nw])), (a3, .inl (cI, 9, .inl yr))] (some (.int (F_X4_yearAt pn yr k))) := by
  refine zR_of (nL := 2) (cc := cX4_yearAt) (ret := some .int) (lv := [(0, .ref h4), (1, .int k)]) (by decide +kernel) rfl (Nat.le_of_ble_eq_true rfl) rfl (fun p e s m args below meth c C hr hlk => ?_)
  have hf := F_X4_yearAt.eq_1 pn yr k
  refine z_aload_n C dX4_yearAt_0 rfl 0 rfl ?_
  refine z_iload_n C dX4_yearAt_1 rfl 1 rfl ?_
  refine z_cVR (As := [.int k]) C (c_X4_isPin l D cI cO h4 a1 a2 a3 pn sl dr nw k) (cwV 1 C.2.2.2.2.1 gX4_yearAt_X4_isPin rfl rfl rfl hdV_X4_isPin ⟨Nat.le_of_ble_eq_true rfl, Nat.le_of_ble_eq_true rfl⟩) [0] rfl rfl 0 rfl rfl rfl _ rfl (Nat.le_of_ble_eq_true rfl) ⟨Nat.zero_le _, Nat.zero_le _⟩ dX4_yearAt_2 ?_
  refine z_if_eq (tgt := 17) C dX4_yearAt_5 (by decide) (fun c5 => ?_) (fun c5 => ?_)
  · rw [if_pos c5] at hf
    refine z_bipush (v := (-9 : Int32)) C dX4_yearAt_17 (by decide) ?_
    exact z_iretR C hr hlk (by rw [hf]) dX4_yearAt_19
  · rw [if_neg c5] at hf
    refine z_aload_n C dX4_yearAt_8 rfl 0 rfl ?_
    refine z_get (T := TX4) (v := .ref a3) C i_X4_yearAt_4 0 rfl rfl 2 (by decide) m_X4_yearAt_1 rfl rfl dX4_yearAt_9 ?_
    refine z_iload_n C dX4_yearAt_12 rfl 1 rfl ?_
    refine z_ald C 1 rfl (isPin_ix c5) dX4_yearAt_13 ?_
    refine z_goto (tgt := 19) C dX4_yearAt_14 (by decide) ?_
    exact z_iretR C hr hlk (by rw [hf]) dX4_yearAt_19
-- X4_turnAt
theorem i_X4_turnAt_4 : ∀ w ∈ u_ws RX4 TX4 7, w ∈ wsX4_turnAt := by decide +kernel
theorem m_X4_turnAt_1 : Cond.fieldLink RX4 9 "WishPins$Well" "kind" "[I" ∈ wsX4_turnAt := List.mem_of_getElem? (i := 1) rfl
theorem m_X4_turnAt_2 : Cond.fieldLink RX4 15 "WishPins$Well" "bend" "[I" ∈ wsX4_turnAt := List.mem_of_getElem? (i := 2) rfl
theorem m_X4_turnAt_10 : Cond.initialized RX5 ∈ wsX4_turnAt := List.mem_of_getElem? (i := 10) rfl
theorem m_X4_turnAt_9 : Cond.static yX5_turnOf ∈ wsX4_turnAt := List.mem_of_getElem? (i := 9) rfl
def F_X4_turnAt (pn : Int32) (kd : Nat → Int32) (bd : Nat → Int32) (k : Int32) : Int32 :=
  (if (F_X4_isPin pn k) = 0 then (-9 : Int32) else (F_X5_turnOf (kd k.toNatClampNeg) (bd k.toNatClampNeg)))
set_option maxHeartbeats 4000000 in
set_option maxRecDepth 100000 in
theorem c_X4_turnAt (l : Launch) (D : va_G) (cI cO : ClassId) (h4 : Nat) (a1 : Nat) (a2 : Nat) (a3 : Nat) (pn : Int32) (sl : Int32) (dr : Int32) (nw : Int32) (kd : Nat → Int32) (bd : Nat → Int32) (k : Int32) : zR l yX4_turnAt wsX4_turnAt ({ frames := 1, cells := 0, slots := 0, locals := 21 } : Room) D cI cO [.ref h4, .int k] [(h4, .inr (4, [.ref a1, .ref a2, .ref a3, .int pn, .int sl, .int dr, .int nw])), (a1, .inl (cI, 9, .inl kd)), (a2, .inl (cI, 9, .inl bd))] (some (.int (F_X4_turnAt pn kd bd k))) := by
  refine zR_of (nL := 2) (cc := cX4_turnAt) (ret := some .int) (lv := [(0, .ref h4), (1, .int k)]) (by decide +kernel) rfl (Nat.le_of_ble_eq_true rfl) rfl (fun p e s m args below meth c C hr hlk => ?_)
  have hf := F_X4_turnAt.eq_1 pn kd bd k
  refine z_aload_n C dX4_turnAt_0 rfl 0 rfl ?_
  refine z_iload_n C dX4_turnAt_1 rfl 1 rfl ?_
  refine z_cVR (As := [.int k]) C (c_X4_isPin l D cI cO h4 a1 a2 a3 pn sl dr nw k) (cwV 1 C.2.2.2.2.1 gX4_turnAt_X4_isPin rfl rfl rfl hdV_X4_isPin ⟨Nat.le_of_ble_eq_true rfl, Nat.le_of_ble_eq_true rfl⟩) [0] rfl rfl 0 rfl rfl rfl _ rfl (Nat.le_of_ble_eq_true rfl) ⟨Nat.zero_le _, Nat.zero_le _⟩ dX4_turnAt_2 ?_
  refine z_if_eq (tgt := 26) C dX4_turnAt_5 (by decide) (fun c5 => ?_) (fun c5 => ?_)
  · rw [if_pos c5] at hf
    refine z_bipush (v := (-9 : Int32)) C dX4_turnAt_26 (by decide) ?_
    exact z_iretR C hr hlk (by rw [hf]) dX4_turnAt_28
  · rw [if_neg c5] at hf
    refine z_aload_n C dX4_turnAt_8 rfl 0 rfl ?_
    refine z_get (T := TX4) (v := .ref a1) C i_X4_turnAt_4 0 rfl rfl 0 (by decide) m_X4_turnAt_1 rfl rfl dX4_turnAt_9 ?_
    refine z_iload_n C dX4_turnAt_12 rfl 1 rfl ?_
    refine z_ald C 1 rfl (isPin_ix c5) dX4_turnAt_13 ?_
    refine z_aload_n C dX4_turnAt_14 rfl 0 rfl ?_
    refine z_get (T := TX4) (v := .ref a2) C i_X4_turnAt_4 0 rfl rfl 1 (by decide) m_X4_turnAt_2 rfl rfl dX4_turnAt_15 ?_
    refine z_iload_n C dX4_turnAt_18 rfl 1 rfl ?_
    refine z_ald C 2 rfl (isPin_ix c5) dX4_turnAt_19 ?_
    refine z_cNR (As := [.int (kd k.toNatClampNeg), .int (bd k.toNatClampNeg)]) C (c_X5_turnOf l D cI cO (kd k.toNatClampNeg) (bd k.toNatClampNeg)) ⟨va_cnB 2 C.2.2.2.2.1 gX4_turnAt_X5_turnOf_n54 rfl rfl rfl (zN_7 C.2.2.2.2.2.2) (C.2.2.2.2.1 _ m_X4_turnAt_10) hdS_X5_turnOf ⟨Nat.le_of_ble_eq_true rfl, Nat.le_of_ble_eq_true rfl⟩, C.2.2.2.2.1 _ m_X4_turnAt_9, trivial⟩ [] rfl rfl rfl _ rfl (Nat.le_of_ble_eq_true rfl) ⟨Nat.zero_le _, Nat.zero_le _⟩ dX4_turnAt_20 ?_
    refine z_goto (tgt := 28) C dX4_turnAt_23 (by decide) ?_
    exact z_iretR C hr hlk (by rw [hf]) dX4_turnAt_28
-- X4_wishAt
theorem i_X4_wishAt_4 : ∀ w ∈ u_ws RX4 TX4 7, w ∈ wsX4_wishAt := by decide +kernel
theorem m_X4_wishAt_1 : Cond.fieldLink RX4 27 "WishPins$Well" "slope" "I" ∈ wsX4_wishAt := List.mem_of_getElem? (i := 1) rfl
theorem m_X4_wishAt_2 : Cond.fieldLink RX4 9 "WishPins$Well" "kind" "[I" ∈ wsX4_wishAt := List.mem_of_getElem? (i := 2) rfl
theorem m_X4_wishAt_3 : Cond.fieldLink RX4 15 "WishPins$Well" "bend" "[I" ∈ wsX4_wishAt := List.mem_of_getElem? (i := 3) rfl
theorem m_X4_wishAt_13 : Cond.initialized RX5 ∈ wsX4_wishAt := List.mem_of_getElem? (i := 13) rfl
theorem m_X4_wishAt_12 : Cond.static yX5_turnOf ∈ wsX4_wishAt := List.mem_of_getElem? (i := 12) rfl
theorem m_X4_wishAt_4 : Cond.fieldLink RX4 31 "WishPins$Well" "drift" "I" ∈ wsX4_wishAt := List.mem_of_getElem? (i := 4) rfl
theorem m_X4_wishAt_5 : Cond.fieldLink RX4 18 "WishPins$Well" "year" "[I" ∈ wsX4_wishAt := List.mem_of_getElem? (i := 5) rfl
theorem m_X4_wishAt_15 : Cond.static yX5_wishOf ∈ wsX4_wishAt := List.mem_of_getElem? (i := 15) rfl
def F_X4_wishAt (pn : Int32) (sl : Int32) (dr : Int32) (kd : Nat → Int32) (bd : Nat → Int32) (yr : Nat → Int32) (k : Int32) : Int32 :=
  (if (F_X4_isPin pn k) = 0 then (-9 : Int32) else (F_X5_wishOf sl (F_X5_turnOf (kd k.toNatClampNeg) (bd k.toNatClampNeg)) dr (yr k.toNatClampNeg)))
set_option maxHeartbeats 4000000 in
set_option maxRecDepth 100000 in
theorem c_X4_wishAt (l : Launch) (D : va_G) (cI cO : ClassId) (h4 : Nat) (a1 : Nat) (a2 : Nat) (a3 : Nat) (pn : Int32) (sl : Int32) (dr : Int32) (nw : Int32) (kd : Nat → Int32) (bd : Nat → Int32) (yr : Nat → Int32) (k : Int32) : zR l yX4_wishAt wsX4_wishAt ({ frames := 1, cells := 0, slots := 0, locals := 23 } : Room) D cI cO [.ref h4, .int k] [(h4, .inr (4, [.ref a1, .ref a2, .ref a3, .int pn, .int sl, .int dr, .int nw])), (a1, .inl (cI, 9, .inl kd)), (a2, .inl (cI, 9, .inl bd)), (a3, .inl (cI, 9, .inl yr))] (some (.int (F_X4_wishAt pn sl dr kd bd yr k))) := by
  refine zR_of (nL := 2) (cc := cX4_wishAt) (ret := some .int) (lv := [(0, .ref h4), (1, .int k)]) (by decide +kernel) rfl (Nat.le_of_ble_eq_true rfl) rfl (fun p e s m args below meth c C hr hlk => ?_)
  have hf := F_X4_wishAt.eq_1 pn sl dr kd bd yr k
  refine z_aload_n C dX4_wishAt_0 rfl 0 rfl ?_
  refine z_iload_n C dX4_wishAt_1 rfl 1 rfl ?_
  refine z_cVR (As := [.int k]) C (c_X4_isPin l D cI cO h4 a1 a2 a3 pn sl dr nw k) (cwV 1 C.2.2.2.2.1 gX4_wishAt_X4_isPin rfl rfl rfl hdV_X4_isPin ⟨Nat.le_of_ble_eq_true rfl, Nat.le_of_ble_eq_true rfl⟩) [0] rfl rfl 0 rfl rfl rfl _ rfl (Nat.le_of_ble_eq_true rfl) ⟨Nat.zero_le _, Nat.zero_le _⟩ dX4_wishAt_2 ?_
  refine z_if_eq (tgt := 43) C dX4_wishAt_5 (by decide) (fun c5 => ?_) (fun c5 => ?_)
  · rw [if_pos c5] at hf
    refine z_bipush (v := (-9 : Int32)) C dX4_wishAt_43 (by decide) ?_
    exact z_iretR C hr hlk (by rw [hf]) dX4_wishAt_45
  · rw [if_neg c5] at hf
    refine z_aload_n C dX4_wishAt_8 rfl 0 rfl ?_
    refine z_get (T := TX4) (v := .int sl) C i_X4_wishAt_4 0 rfl rfl 4 (by decide) m_X4_wishAt_1 rfl rfl dX4_wishAt_9 ?_
    refine z_aload_n C dX4_wishAt_12 rfl 0 rfl ?_
    refine z_get (T := TX4) (v := .ref a1) C i_X4_wishAt_4 0 rfl rfl 0 (by decide) m_X4_wishAt_2 rfl rfl dX4_wishAt_13 ?_
    refine z_iload_n C dX4_wishAt_16 rfl 1 rfl ?_
    refine z_ald C 1 rfl (isPin_ix c5) dX4_wishAt_17 ?_
    refine z_aload_n C dX4_wishAt_18 rfl 0 rfl ?_
    refine z_get (T := TX4) (v := .ref a2) C i_X4_wishAt_4 0 rfl rfl 1 (by decide) m_X4_wishAt_3 rfl rfl dX4_wishAt_19 ?_
    refine z_iload_n C dX4_wishAt_22 rfl 1 rfl ?_
    refine z_ald C 2 rfl (isPin_ix c5) dX4_wishAt_23 ?_
    refine z_cNR (As := [.int (kd k.toNatClampNeg), .int (bd k.toNatClampNeg)]) C (c_X5_turnOf l D cI cO (kd k.toNatClampNeg) (bd k.toNatClampNeg)) ⟨va_cnB 2 C.2.2.2.2.1 gX4_wishAt_X5_turnOf_n54 rfl rfl rfl (zN_7 C.2.2.2.2.2.2) (C.2.2.2.2.1 _ m_X4_wishAt_13) hdS_X5_turnOf ⟨Nat.le_of_ble_eq_true rfl, Nat.le_of_ble_eq_true rfl⟩, C.2.2.2.2.1 _ m_X4_wishAt_12, trivial⟩ [] rfl rfl rfl _ rfl (Nat.le_of_ble_eq_true rfl) ⟨Nat.zero_le _, Nat.zero_le _⟩ dX4_wishAt_24 ?_
    refine z_aload_n C dX4_wishAt_27 rfl 0 rfl ?_
    refine z_get (T := TX4) (v := .int dr) C i_X4_wishAt_4 0 rfl rfl 5 (by decide) m_X4_wishAt_4 rfl rfl dX4_wishAt_28 ?_
    refine z_aload_n C dX4_wishAt_31 rfl 0 rfl ?_
    refine z_get (T := TX4) (v := .ref a3) C i_X4_wishAt_4 0 rfl rfl 2 (by decide) m_X4_wishAt_5 rfl rfl dX4_wishAt_32 ?_
    refine z_iload_n C dX4_wishAt_35 rfl 1 rfl ?_
    refine z_ald C 3 rfl (isPin_ix c5) dX4_wishAt_36 ?_
    refine z_cNR (As := [.int sl, .int (F_X5_turnOf (kd k.toNatClampNeg) (bd k.toNatClampNeg)), .int dr, .int (yr k.toNatClampNeg)]) C (c_X5_wishOf l D cI cO sl (F_X5_turnOf (kd k.toNatClampNeg) (bd k.toNatClampNeg)) dr (yr k.toNatClampNeg)) ⟨va_cnB 4 C.2.2.2.2.1 gX4_wishAt_X5_wishOf_n58 rfl rfl rfl (zN_8 C.2.2.2.2.2.2) (C.2.2.2.2.1 _ m_X4_wishAt_13) hdS_X5_wishOf ⟨Nat.le_of_ble_eq_true rfl, Nat.le_of_ble_eq_true rfl⟩, C.2.2.2.2.1 _ m_X4_wishAt_15, trivial⟩ [] rfl rfl rfl _ rfl (Nat.le_of_ble_eq_true rfl) ⟨Nat.zero_le _, Nat.zero_le _⟩ dX4_wishAt_37 ?_
    refine z_goto (tgt := 45) C dX4_wishAt_40 (by decide) ?_
    exact z_iretR C hr hlk (by rw [hf]) dX4_wishAt_45
-- X4_wishNow
theorem i_X4_wishNow_4 : ∀ w ∈ u_ws RX4 TX4 7, w ∈ wsX4_wishNow := by decide +kernel
theorem m_X4_wishNow_1 : Cond.fieldLink RX4 27 "WishPins$Well" "slope" "I" ∈ wsX4_wishNow := List.mem_of_getElem? (i := 1) rfl
theorem m_X4_wishNow_5 : Cond.initialized RX5 ∈ wsX4_wishNow := List.mem_of_getElem? (i := 5) rfl
theorem m_X4_wishNow_4 : Cond.static yX5_turnOf ∈ wsX4_wishNow := List.mem_of_getElem? (i := 4) rfl
theorem m_X4_wishNow_2 : Cond.fieldLink RX4 31 "WishPins$Well" "drift" "I" ∈ wsX4_wishNow := List.mem_of_getElem? (i := 2) rfl
theorem m_X4_wishNow_3 : Cond.fieldLink RX4 37 "WishPins$Well" "now" "I" ∈ wsX4_wishNow := List.mem_of_getElem? (i := 3) rfl
theorem m_X4_wishNow_7 : Cond.static yX5_wishOf ∈ wsX4_wishNow := List.mem_of_getElem? (i := 7) rfl
def F_X4_wishNow (sl : Int32) (dr : Int32) (nw : Int32) (k : Int32) (b : Int32) : Int32 :=
  (F_X5_wishOf sl (F_X5_turnOf k b) dr nw)
set_option maxHeartbeats 4000000 in
set_option maxRecDepth 100000 in
theorem c_X4_wishNow (l : Launch) (D : va_G) (cI cO : ClassId) (h4 : Nat) (a1 : Nat) (a2 : Nat) (a3 : Nat) (pn : Int32) (sl : Int32) (dr : Int32) (nw : Int32) (k : Int32) (b : Int32) : zR l yX4_wishNow wsX4_wishNow ({ frames := 1, cells := 0, slots := 0, locals := 23 } : Room) D cI cO [.ref h4, .int k, .int b] [(h4, .inr (4, [.ref a1, .ref a2, .ref a3, .int pn, .int sl, .int dr, .int nw]))] (some (.int (F_X4_wishNow sl dr nw k b))) := by
  refine zR_of (nL := 3) (cc := cX4_wishNow) (ret := some .int) (lv := [(0, .ref h4), (1, .int k), (2, .int b)]) (by decide +kernel) rfl (Nat.le_of_ble_eq_true rfl) rfl (fun p e s m args below meth c C hr hlk => ?_)
  have hf := F_X4_wishNow.eq_1 sl dr nw k b
  refine z_aload_n C dX4_wishNow_0 rfl 0 rfl ?_
  refine z_get (T := TX4) (v := .int sl) C i_X4_wishNow_4 0 rfl rfl 4 (by decide) m_X4_wishNow_1 rfl rfl dX4_wishNow_1 ?_
  refine z_iload_n C dX4_wishNow_4 rfl 1 rfl ?_
  refine z_iload_n C dX4_wishNow_5 rfl 2 rfl ?_
  refine z_cNR (As := [.int k, .int b]) C (c_X5_turnOf l D cI cO k b) ⟨va_cnB 2 C.2.2.2.2.1 gX4_wishNow_X5_turnOf_n54 rfl rfl rfl (zN_7 C.2.2.2.2.2.2) (C.2.2.2.2.1 _ m_X4_wishNow_5) hdS_X5_turnOf ⟨Nat.le_of_ble_eq_true rfl, Nat.le_of_ble_eq_true rfl⟩, C.2.2.2.2.1 _ m_X4_wishNow_4, trivial⟩ [] rfl rfl rfl _ rfl (Nat.le_of_ble_eq_true rfl) ⟨Nat.zero_le _, Nat.zero_le _⟩ dX4_wishNow_6 ?_
  refine z_aload_n C dX4_wishNow_9 rfl 0 rfl ?_
  refine z_get (T := TX4) (v := .int dr) C i_X4_wishNow_4 0 rfl rfl 5 (by decide) m_X4_wishNow_2 rfl rfl dX4_wishNow_10 ?_
  refine z_aload_n C dX4_wishNow_13 rfl 0 rfl ?_
  refine z_get (T := TX4) (v := .int nw) C i_X4_wishNow_4 0 rfl rfl 6 (by decide) m_X4_wishNow_3 rfl rfl dX4_wishNow_14 ?_
  refine z_cNR (As := [.int sl, .int (F_X5_turnOf k b), .int dr, .int nw]) C (c_X5_wishOf l D cI cO sl (F_X5_turnOf k b) dr nw) ⟨va_cnB 4 C.2.2.2.2.1 gX4_wishNow_X5_wishOf_n58 rfl rfl rfl (zN_8 C.2.2.2.2.2.2) (C.2.2.2.2.1 _ m_X4_wishNow_5) hdS_X5_wishOf ⟨Nat.le_of_ble_eq_true rfl, Nat.le_of_ble_eq_true rfl⟩, C.2.2.2.2.1 _ m_X4_wishNow_7, trivial⟩ [] rfl rfl rfl _ rfl (Nat.le_of_ble_eq_true rfl) ⟨Nat.zero_le _, Nat.zero_le _⟩ dX4_wishNow_17 ?_
  exact z_iretR C hr hlk (by rw [hf]) dX4_wishNow_20
-- X4_setBend
theorem i_X4_setBend_4 : ∀ w ∈ u_ws RX4 TX4 7, w ∈ wsX4_setBend := by decide +kernel
theorem m_X4_setBend_1 : Cond.fieldLink RX4 15 "WishPins$Well" "bend" "[I" ∈ wsX4_setBend := List.mem_of_getElem? (i := 1) rfl
def F_X4_setBend (pn : Int32) (bd : Nat → Int32) (k : Int32) (v : Int32) : (Nat → Int32) :=
  (if (F_X4_isPin pn k) = 0 then bd else (upd bd k.toNatClampNeg v))
set_option maxHeartbeats 4000000 in
set_option maxRecDepth 100000 in
theorem c_X4_setBend (l : Launch) (D : va_G) (cI cO : ClassId) (h4 : Nat) (a1 : Nat) (a2 : Nat) (a3 : Nat) (pn : Int32) (sl : Int32) (dr : Int32) (nw : Int32) (bd : Nat → Int32) (k : Int32) (v : Int32) : zW l yX4_setBend wsX4_setBend ({ frames := 1, cells := 0, slots := 0, locals := 21 } : Room) D cI cO [.ref h4, .int k, .int v] [(h4, .inr (4, [.ref a1, .ref a2, .ref a3, .int pn, .int sl, .int dr, .int nw])), (a2, .inl (cI, 9, .inl bd))] [(h4, .inr (4, [.ref a1, .ref a2, .ref a3, .int pn, .int sl, .int dr, .int nw])), (a2, .inl (cI, 9, .inl (F_X4_setBend pn bd k v)))] none := by
  refine zW_of (nL := 3) (cc := cX4_setBend) (ret := none) (lv := [(0, .ref h4), (1, .int k), (2, .int v)]) (by decide +kernel) rfl (Nat.le_of_ble_eq_true rfl) rfl (fun p e s m args below meth c C hr hlk => ?_)
  have hf := F_X4_setBend.eq_1 pn bd k v
  refine z_aload_n C dX4_setBend_0 rfl 0 rfl ?_
  refine z_iload_n C dX4_setBend_1 rfl 1 rfl ?_
  refine z_cVR (As := [.int k]) C (c_X4_isPin l D cI cO h4 a1 a2 a3 pn sl dr nw k) (cwV 1 C.2.2.2.2.1 gX4_setBend_X4_isPin rfl rfl rfl hdV_X4_isPin ⟨Nat.le_of_ble_eq_true rfl, Nat.le_of_ble_eq_true rfl⟩) [0] rfl rfl 0 rfl rfl rfl _ rfl (Nat.le_of_ble_eq_true rfl) ⟨Nat.zero_le _, Nat.zero_le _⟩ dX4_setBend_2 ?_
  refine z_if_eq (tgt := 15) C dX4_setBend_5 (by decide) (fun c5 => ?_) (fun c5 => ?_)
  · rw [if_pos c5] at hf
    exact z_vretW C hr hlk (by rw [hf]) dX4_setBend_15
  · rw [if_neg c5] at hf
    refine z_aload_n C dX4_setBend_8 rfl 0 rfl ?_
    refine z_get (T := TX4) (v := .ref a2) C i_X4_setBend_4 0 rfl rfl 1 (by decide) m_X4_setBend_1 rfl rfl dX4_setBend_9 ?_
    refine z_iload_n C dX4_setBend_12 rfl 1 rfl ?_
    refine z_iload_n C dX4_setBend_13 rfl 2 rfl ?_
    refine z_ast C [(h4, .inr (4, [.ref a1, .ref a2, .ref a3, .int pn, .int sl, .int dr, .int nw])), (a2, .inl (cI, 9, .inl (upd bd k.toNatClampNeg v)))] 1 rfl (isPin_ix c5) dX4_setBend_14 rfl ?_
    exact z_vretW C hr hlk (by rw [hf]) dX4_setBend_15
-- X4_addTop
theorem i_X4_addTop_4 : ∀ w ∈ u_ws RX4 TX4 7, w ∈ wsX4_addTop := by decide +kernel
theorem m_X4_addTop_1 : Cond.fieldLink RX4 34 "WishPins$Well" "pins" "I" ∈ wsX4_addTop := List.mem_of_getElem? (i := 1) rfl
theorem m_X4_addTop_2 : Cond.fieldLink RX4 9 "WishPins$Well" "kind" "[I" ∈ wsX4_addTop := List.mem_of_getElem? (i := 2) rfl
theorem m_X4_addTop_3 : Cond.fieldLink RX4 15 "WishPins$Well" "bend" "[I" ∈ wsX4_addTop := List.mem_of_getElem? (i := 3) rfl
theorem m_X4_addTop_4 : Cond.fieldLink RX4 18 "WishPins$Well" "year" "[I" ∈ wsX4_addTop := List.mem_of_getElem? (i := 4) rfl
theorem m_X4_addTop_5 : Cond.fieldLink RX4 37 "WishPins$Well" "now" "I" ∈ wsX4_addTop := List.mem_of_getElem? (i := 5) rfl
def F_X4_addTop (pn : Int32) (nw : Int32) (kd : Nat → Int32) (bd : Nat → Int32) (yr : Nat → Int32) (k : Int32) (b : Int32) : Int32 × Int32 × (Nat → Int32) × (Nat → Int32) × (Nat → Int32) :=
  (if pn < 0 then ((0 : Int32), pn, kd, bd, yr) else (if pn < (9 : Int32) then ((1 : Int32), (pn + (1 : Int32)), (upd kd pn.toNatClampNeg k), (upd bd pn.toNatClampNeg b), (upd yr pn.toNatClampNeg nw)) else ((0 : Int32), pn, kd, bd, yr)))
set_option maxHeartbeats 4000000 in
set_option maxRecDepth 100000 in
theorem c_X4_addTop (l : Launch) (D : va_G) (cI cO : ClassId) (h4 : Nat) (a1 : Nat) (a2 : Nat) (a3 : Nat) (pn : Int32) (sl : Int32) (dr : Int32) (nw : Int32) (kd : Nat → Int32) (bd : Nat → Int32) (yr : Nat → Int32) (k : Int32) (b : Int32) : zW l yX4_addTop wsX4_addTop ({ frames := 0, cells := 0, slots := 0, locals := 0 } : Room) D cI cO [.ref h4, .int k, .int b] [(h4, .inr (4, [.ref a1, .ref a2, .ref a3, .int pn, .int sl, .int dr, .int nw])), (a1, .inl (cI, 9, .inl kd)), (a2, .inl (cI, 9, .inl bd)), (a3, .inl (cI, 9, .inl yr))] [(h4, .inr (4, [.ref a1, .ref a2, .ref a3, .int ((F_X4_addTop pn nw kd bd yr k b).2.1), .int sl, .int dr, .int nw])), (a1, .inl (cI, 9, .inl ((F_X4_addTop pn nw kd bd yr k b).2.2.1))), (a2, .inl (cI, 9, .inl ((F_X4_addTop pn nw kd bd yr k b).2.2.2.1))), (a3, .inl (cI, 9, .inl ((F_X4_addTop pn nw kd bd yr k b).2.2.2.2)))] (some (.int ((F_X4_addTop pn nw kd bd yr k b).1))) := by
  refine zW_of (nL := 3) (cc := cX4_addTop) (ret := some .boolean) (lv := [(0, .ref h4), (1, .int k), (2, .int b)]) (by decide +kernel) rfl (Nat.le_of_ble_eq_true rfl) rfl (fun p e s m args below meth c C hr hlk => ?_)
  have hf := F_X4_addTop.eq_1 pn nw kd bd yr k b
  refine z_aload_n C dX4_addTop_0 rfl 0 rfl ?_
  refine z_get (T := TX4) (v := .int pn) C i_X4_addTop_4 0 rfl rfl 3 (by decide) m_X4_addTop_1 rfl rfl dX4_addTop_1 ?_
  refine z_if_lt (tgt := 16) C dX4_addTop_4 (by decide) (fun c4 => ?_) (fun c4 => ?_)
  · rw [if_pos c4] at hf
    refine z_iconst (v := (0 : Int32)) C dX4_addTop_16 (by decide) ?_
    exact z_zretW C hr hlk rfl (by rw [hf]) (by rw [hf]) dX4_addTop_17
  · rw [if_neg c4] at hf
    refine z_aload_n C dX4_addTop_7 rfl 0 rfl ?_
    refine z_get (T := TX4) (v := .int pn) C i_X4_addTop_4 0 rfl rfl 3 (by decide) m_X4_addTop_1 rfl rfl dX4_addTop_8 ?_
    refine z_bipush (v := (9 : Int32)) C dX4_addTop_11 (by decide) ?_
    refine z_icmp_lt (tgt := 18) C dX4_addTop_13 (by decide) (fun c13 => ?_) (fun c13 => ?_)
    · rw [if_pos c13] at hf
      refine z_aload_n C dX4_addTop_18 rfl 0 rfl ?_
      refine z_get (T := TX4) (v := .ref a1) C i_X4_addTop_4 0 rfl rfl 0 (by decide) m_X4_addTop_2 rfl rfl dX4_addTop_19 ?_
      refine z_aload_n C dX4_addTop_22 rfl 0 rfl ?_
      refine z_get (T := TX4) (v := .int pn) C i_X4_addTop_4 0 rfl rfl 3 (by decide) m_X4_addTop_1 rfl rfl dX4_addTop_23 ?_
      refine z_iload_n C dX4_addTop_26 rfl 1 rfl ?_
      refine z_ast C [(h4, .inr (4, [.ref a1, .ref a2, .ref a3, .int pn, .int sl, .int dr, .int nw])), (a1, .inl (cI, 9, .inl (upd kd pn.toNatClampNeg k))), (a2, .inl (cI, 9, .inl bd)), (a3, .inl (cI, 9, .inl yr))] 1 rfl (z_in (N := 9) (by decide) c4 c13) dX4_addTop_27 rfl ?_
      refine z_aload_n C dX4_addTop_28 rfl 0 rfl ?_
      refine z_get (T := TX4) (v := .ref a2) C i_X4_addTop_4 0 rfl rfl 1 (by decide) m_X4_addTop_3 rfl rfl dX4_addTop_29 ?_
      refine z_aload_n C dX4_addTop_32 rfl 0 rfl ?_
      refine z_get (T := TX4) (v := .int pn) C i_X4_addTop_4 0 rfl rfl 3 (by decide) m_X4_addTop_1 rfl rfl dX4_addTop_33 ?_
      refine z_iload_n C dX4_addTop_36 rfl 2 rfl ?_
      refine z_ast C [(h4, .inr (4, [.ref a1, .ref a2, .ref a3, .int pn, .int sl, .int dr, .int nw])), (a1, .inl (cI, 9, .inl (upd kd pn.toNatClampNeg k))), (a2, .inl (cI, 9, .inl (upd bd pn.toNatClampNeg b))), (a3, .inl (cI, 9, .inl yr))] 2 rfl (z_in (N := 9) (by decide) c4 c13) dX4_addTop_37 rfl ?_
      refine z_aload_n C dX4_addTop_38 rfl 0 rfl ?_
      refine z_get (T := TX4) (v := .ref a3) C i_X4_addTop_4 0 rfl rfl 2 (by decide) m_X4_addTop_4 rfl rfl dX4_addTop_39 ?_
      refine z_aload_n C dX4_addTop_42 rfl 0 rfl ?_
      refine z_get (T := TX4) (v := .int pn) C i_X4_addTop_4 0 rfl rfl 3 (by decide) m_X4_addTop_1 rfl rfl dX4_addTop_43 ?_
      refine z_aload_n C dX4_addTop_46 rfl 0 rfl ?_
      refine z_get (T := TX4) (v := .int nw) C i_X4_addTop_4 0 rfl rfl 6 (by decide) m_X4_addTop_5 rfl rfl dX4_addTop_47 ?_
      refine z_ast C [(h4, .inr (4, [.ref a1, .ref a2, .ref a3, .int pn, .int sl, .int dr, .int nw])), (a1, .inl (cI, 9, .inl (upd kd pn.toNatClampNeg k))), (a2, .inl (cI, 9, .inl (upd bd pn.toNatClampNeg b))), (a3, .inl (cI, 9, .inl (upd yr pn.toNatClampNeg nw)))] 3 rfl (z_in (N := 9) (by decide) c4 c13) dX4_addTop_50 rfl ?_
      refine z_aload_n C dX4_addTop_51 rfl 0 rfl ?_
      refine z_dup C dX4_addTop_52 rfl ?_
      refine z_get (T := TX4) (v := .int pn) C i_X4_addTop_4 0 rfl rfl 3 (by decide) m_X4_addTop_1 rfl rfl dX4_addTop_53 ?_
      refine z_iconst (v := (1 : Int32)) C dX4_addTop_56 (by decide) ?_
      refine z_iadd C dX4_addTop_57 ?_
      refine z_put (T := TX4) (ty := .int) C [(h4, .inr (4, [.ref a1, .ref a2, .ref a3, .int (pn + (1 : Int32)), .int sl, .int dr, .int nw])), (a1, .inl (cI, 9, .inl (upd kd pn.toNatClampNeg k))), (a2, .inl (cI, 9, .inl (upd bd pn.toNatClampNeg b))), (a3, .inl (cI, 9, .inl (upd yr pn.toNatClampNeg nw)))] i_X4_addTop_4 tyX4 tyX4_ok nmX4 0 rfl rfl 3 (by decide) m_X4_addTop_1 rfl rfl (by decide +kernel) rfl rfl (Nat.le_of_ble_eq_true rfl) dX4_addTop_58 rfl ?_
      refine z_iconst (v := (1 : Int32)) C dX4_addTop_61 (by decide) ?_
      exact z_zretW C hr hlk rfl (by rw [hf]) (by rw [hf]) dX4_addTop_62
    · rw [if_neg c13] at hf
      refine z_iconst (v := (0 : Int32)) C dX4_addTop_16 (by decide) ?_
      exact z_zretW C hr hlk rfl (by rw [hf]) (by rw [hf]) dX4_addTop_17
-- X4_dropTop
theorem i_X4_dropTop_4 : ∀ w ∈ u_ws RX4 TX4 7, w ∈ wsX4_dropTop := by decide +kernel
theorem m_X4_dropTop_1 : Cond.fieldLink RX4 34 "WishPins$Well" "pins" "I" ∈ wsX4_dropTop := List.mem_of_getElem? (i := 1) rfl
def F_X4_dropTop (pn : Int32) : Int32 × Int32 :=
  (if (2 : Int32) ≤ pn then ((1 : Int32), (pn - (1 : Int32))) else ((0 : Int32), pn))
set_option maxHeartbeats 4000000 in
set_option maxRecDepth 100000 in
theorem c_X4_dropTop (l : Launch) (D : va_G) (cI cO : ClassId) (h4 : Nat) (a1 : Nat) (a2 : Nat) (a3 : Nat) (pn : Int32) (sl : Int32) (dr : Int32) (nw : Int32) : zW l yX4_dropTop wsX4_dropTop ({ frames := 0, cells := 0, slots := 0, locals := 0 } : Room) D cI cO [.ref h4] [(h4, .inr (4, [.ref a1, .ref a2, .ref a3, .int pn, .int sl, .int dr, .int nw]))] [(h4, .inr (4, [.ref a1, .ref a2, .ref a3, .int ((F_X4_dropTop pn).2), .int sl, .int dr, .int nw]))] (some (.int ((F_X4_dropTop pn).1))) := by
  refine zW_of (nL := 1) (cc := cX4_dropTop) (ret := some .boolean) (lv := [(0, .ref h4)]) (by decide +kernel) rfl (Nat.le_of_ble_eq_true rfl) rfl (fun p e s m args below meth c C hr hlk => ?_)
  have hf := F_X4_dropTop.eq_1 pn
  refine z_aload_n C dX4_dropTop_0 rfl 0 rfl ?_
  refine z_get (T := TX4) (v := .int pn) C i_X4_dropTop_4 0 rfl rfl 3 (by decide) m_X4_dropTop_1 rfl rfl dX4_dropTop_1 ?_
  refine z_iconst (v := (2 : Int32)) C dX4_dropTop_4 (by decide) ?_
  refine z_icmp_ge (tgt := 10) C dX4_dropTop_5 (by decide) (fun c5 => ?_) (fun c5 => ?_)
  · rw [if_pos c5] at hf
    refine z_aload_n C dX4_dropTop_10 rfl 0 rfl ?_
    refine z_dup C dX4_dropTop_11 rfl ?_
    refine z_get (T := TX4) (v := .int pn) C i_X4_dropTop_4 0 rfl rfl 3 (by decide) m_X4_dropTop_1 rfl rfl dX4_dropTop_12 ?_
    refine z_iconst (v := (1 : Int32)) C dX4_dropTop_15 (by decide) ?_
    refine z_isub C dX4_dropTop_16 ?_
    refine z_put (T := TX4) (ty := .int) C [(h4, .inr (4, [.ref a1, .ref a2, .ref a3, .int (pn - (1 : Int32)), .int sl, .int dr, .int nw]))] i_X4_dropTop_4 tyX4 tyX4_ok nmX4 0 rfl rfl 3 (by decide) m_X4_dropTop_1 rfl rfl (by decide +kernel) rfl rfl (Nat.le_of_ble_eq_true rfl) dX4_dropTop_17 rfl ?_
    refine z_iconst (v := (1 : Int32)) C dX4_dropTop_20 (by decide) ?_
    exact z_zretW C hr hlk rfl (by rw [hf]) (by rw [hf]) dX4_dropTop_21
  · rw [if_neg c5] at hf
    refine z_iconst (v := (0 : Int32)) C dX4_dropTop_8 (by decide) ?_
    exact z_zretW C hr hlk rfl (by rw [hf]) (by rw [hf]) dX4_dropTop_9
-- X4_become
theorem i_X4_become_4 : ∀ w ∈ u_ws RX4 TX4 7, w ∈ wsX4_become := by decide +kernel
theorem m_X4_become_1 : Cond.fieldLink RX4 9 "WishPins$Well" "kind" "[I" ∈ wsX4_become := List.mem_of_getElem? (i := 1) rfl
theorem m_X4_become_2 : Cond.methodLink RX4 44 arraycopyName ∈ wsX4_become := List.mem_of_getElem? (i := 2) rfl
theorem m_X4_become_3 : Cond.native arraycopyName ∈ wsX4_become := List.mem_of_getElem? (i := 3) rfl
theorem m_X4_become_4 : Cond.static arraycopyName ∈ wsX4_become := List.mem_of_getElem? (i := 4) rfl
theorem m_X4_become_5 : Cond.initialized "java/lang/System" ∈ wsX4_become := List.mem_of_getElem? (i := 5) rfl
theorem m_X4_become_6 : Cond.fieldLink RX4 15 "WishPins$Well" "bend" "[I" ∈ wsX4_become := List.mem_of_getElem? (i := 6) rfl
theorem m_X4_become_7 : Cond.fieldLink RX4 18 "WishPins$Well" "year" "[I" ∈ wsX4_become := List.mem_of_getElem? (i := 7) rfl
theorem m_X4_become_8 : Cond.fieldLink RX4 34 "WishPins$Well" "pins" "I" ∈ wsX4_become := List.mem_of_getElem? (i := 8) rfl
theorem m_X4_become_9 : Cond.fieldLink RX4 27 "WishPins$Well" "slope" "I" ∈ wsX4_become := List.mem_of_getElem? (i := 9) rfl
theorem m_X4_become_10 : Cond.fieldLink RX4 31 "WishPins$Well" "drift" "I" ∈ wsX4_become := List.mem_of_getElem? (i := 10) rfl
theorem m_X4_become_11 : Cond.fieldLink RX4 37 "WishPins$Well" "now" "I" ∈ wsX4_become := List.mem_of_getElem? (i := 11) rfl
def F_X4_become (kd : Nat → Int32) (bd : Nat → Int32) (yr : Nat → Int32) (pnt : Int32) (slt : Int32) (drt : Int32) (nwt : Int32) (kdt : Nat → Int32) (bdt : Nat → Int32) (yrt : Nat → Int32) : Int32 × Int32 × Int32 × Int32 × (Nat → Int32) × (Nat → Int32) × (Nat → Int32) :=
  (pnt, slt, drt, nwt, (va_cpy kdt kd (0 : Int32).toNatClampNeg (0 : Int32).toNatClampNeg (9 : Int32).toNatClampNeg), (va_cpy bdt bd (0 : Int32).toNatClampNeg (0 : Int32).toNatClampNeg (9 : Int32).toNatClampNeg), (va_cpy yrt yr (0 : Int32).toNatClampNeg (0 : Int32).toNatClampNeg (9 : Int32).toNatClampNeg))
set_option maxHeartbeats 4000000 in
set_option maxRecDepth 100000 in
theorem c_X4_become (l : Launch) (D : va_G) (cI cO : ClassId) (h4 : Nat) (a1 : Nat) (a2 : Nat) (a3 : Nat) (pn : Int32) (sl : Int32) (dr : Int32) (nw : Int32) (kd : Nat → Int32) (bd : Nat → Int32) (yr : Nat → Int32) (h4t : Nat) (a1t : Nat) (a2t : Nat) (a3t : Nat) (pnt : Int32) (slt : Int32) (drt : Int32) (nwt : Int32) (kdt : Nat → Int32) (bdt : Nat → Int32) (yrt : Nat → Int32) : zW l yX4_become wsX4_become ({ frames := 1, cells := 0, slots := 0, locals := 40 } : Room) D cI cO [.ref h4, .ref h4t] [(h4, .inr (4, [.ref a1, .ref a2, .ref a3, .int pn, .int sl, .int dr, .int nw])), (a1, .inl (cI, 9, .inl kd)), (a2, .inl (cI, 9, .inl bd)), (a3, .inl (cI, 9, .inl yr)), (h4t, .inr (4, [.ref a1t, .ref a2t, .ref a3t, .int pnt, .int slt, .int drt, .int nwt])), (a1t, .inl (cI, 9, .inl kdt)), (a2t, .inl (cI, 9, .inl bdt)), (a3t, .inl (cI, 9, .inl yrt))] [(h4, .inr (4, [.ref a1, .ref a2, .ref a3, .int ((F_X4_become kd bd yr pnt slt drt nwt kdt bdt yrt).1), .int ((F_X4_become kd bd yr pnt slt drt nwt kdt bdt yrt).2.1), .int ((F_X4_become kd bd yr pnt slt drt nwt kdt bdt yrt).2.2.1), .int ((F_X4_become kd bd yr pnt slt drt nwt kdt bdt yrt).2.2.2.1)])), (a1, .inl (cI, 9, .inl ((F_X4_become kd bd yr pnt slt drt nwt kdt bdt yrt).2.2.2.2.1))), (a2, .inl (cI, 9, .inl ((F_X4_become kd bd yr pnt slt drt nwt kdt bdt yrt).2.2.2.2.2.1))), (a3, .inl (cI, 9, .inl ((F_X4_become kd bd yr pnt slt drt nwt kdt bdt yrt).2.2.2.2.2.2))), (h4t, .inr (4, [.ref a1t, .ref a2t, .ref a3t, .int pnt, .int slt, .int drt, .int nwt])), (a1t, .inl (cI, 9, .inl kdt)), (a2t, .inl (cI, 9, .inl bdt)), (a3t, .inl (cI, 9, .inl yrt))] none := by
  refine zW_of (nL := 2) (cc := cX4_become) (ret := none) (lv := [(0, .ref h4), (1, .ref h4t)]) (by decide +kernel) rfl (Nat.le_of_ble_eq_true rfl) rfl (fun p e s m args below meth c C hr hlk => ?_)
  have hf := F_X4_become.eq_1 kd bd yr pnt slt drt nwt kdt bdt yrt
  refine z_aload_n C dX4_become_0 rfl 1 rfl ?_
  refine z_get (T := TX4) (v := .ref a1t) C i_X4_become_4 4 rfl rfl 0 (by decide) m_X4_become_1 rfl rfl dX4_become_1 ?_
  refine z_iconst (v := (0 : Int32)) C dX4_become_4 (by decide) ?_
  refine z_aload_n C dX4_become_5 rfl 0 rfl ?_
  refine z_get (T := TX4) (v := .ref a1) C i_X4_become_4 0 rfl rfl 0 (by decide) m_X4_become_1 rfl rfl dX4_become_6 ?_
  refine z_iconst (v := (0 : Int32)) C dX4_become_9 (by decide) ?_
  refine z_bipush (v := (9 : Int32)) C dX4_become_10 (by decide) ?_
  refine z_acopy C [(h4, .inr (4, [.ref a1, .ref a2, .ref a3, .int pn, .int sl, .int dr, .int nw])), (a1, .inl (cI, 9, .inl (va_cpy kdt kd (0 : Int32).toNatClampNeg (0 : Int32).toNatClampNeg (9 : Int32).toNatClampNeg))), (a2, .inl (cI, 9, .inl bd)), (a3, .inl (cI, 9, .inl yr)), (h4t, .inr (4, [.ref a1t, .ref a2t, .ref a3t, .int pnt, .int slt, .int drt, .int nwt])), (a1t, .inl (cI, 9, .inl kdt)), (a2t, .inl (cI, 9, .inl bdt)), (a3t, .inl (cI, 9, .inl yrt))] m_X4_become_2 m_X4_become_3 m_X4_become_4 m_X4_become_5 5 1 rfl rfl (by decide) (by decide) (by decide) (by decide) (by decide) (by decide) (by decide) dX4_become_12 rfl ?_
  refine z_aload_n C dX4_become_15 rfl 1 rfl ?_
  refine z_get (T := TX4) (v := .ref a2t) C i_X4_become_4 4 rfl rfl 1 (by decide) m_X4_become_6 rfl rfl dX4_become_16 ?_
  refine z_iconst (v := (0 : Int32)) C dX4_become_19 (by decide) ?_
  refine z_aload_n C dX4_become_20 rfl 0 rfl ?_
  refine z_get (T := TX4) (v := .ref a2) C i_X4_become_4 0 rfl rfl 1 (by decide) m_X4_become_6 rfl rfl dX4_become_21 ?_
  refine z_iconst (v := (0 : Int32)) C dX4_become_24 (by decide) ?_
  refine z_bipush (v := (9 : Int32)) C dX4_become_25 (by decide) ?_
  refine z_acopy C [(h4, .inr (4, [.ref a1, .ref a2, .ref a3, .int pn, .int sl, .int dr, .int nw])), (a1, .inl (cI, 9, .inl (va_cpy kdt kd (0 : Int32).toNatClampNeg (0 : Int32).toNatClampNeg (9 : Int32).toNatClampNeg))), (a2, .inl (cI, 9, .inl (va_cpy bdt bd (0 : Int32).toNatClampNeg (0 : Int32).toNatClampNeg (9 : Int32).toNatClampNeg))), (a3, .inl (cI, 9, .inl yr)), (h4t, .inr (4, [.ref a1t, .ref a2t, .ref a3t, .int pnt, .int slt, .int drt, .int nwt])), (a1t, .inl (cI, 9, .inl kdt)), (a2t, .inl (cI, 9, .inl bdt)), (a3t, .inl (cI, 9, .inl yrt))] m_X4_become_2 m_X4_become_3 m_X4_become_4 m_X4_become_5 6 2 rfl rfl (by decide) (by decide) (by decide) (by decide) (by decide) (by decide) (by decide) dX4_become_27 rfl ?_
  refine z_aload_n C dX4_become_30 rfl 1 rfl ?_
  refine z_get (T := TX4) (v := .ref a3t) C i_X4_become_4 4 rfl rfl 2 (by decide) m_X4_become_7 rfl rfl dX4_become_31 ?_
  refine z_iconst (v := (0 : Int32)) C dX4_become_34 (by decide) ?_
  refine z_aload_n C dX4_become_35 rfl 0 rfl ?_
  refine z_get (T := TX4) (v := .ref a3) C i_X4_become_4 0 rfl rfl 2 (by decide) m_X4_become_7 rfl rfl dX4_become_36 ?_
  refine z_iconst (v := (0 : Int32)) C dX4_become_39 (by decide) ?_
  refine z_bipush (v := (9 : Int32)) C dX4_become_40 (by decide) ?_
  refine z_acopy C [(h4, .inr (4, [.ref a1, .ref a2, .ref a3, .int pn, .int sl, .int dr, .int nw])), (a1, .inl (cI, 9, .inl (va_cpy kdt kd (0 : Int32).toNatClampNeg (0 : Int32).toNatClampNeg (9 : Int32).toNatClampNeg))), (a2, .inl (cI, 9, .inl (va_cpy bdt bd (0 : Int32).toNatClampNeg (0 : Int32).toNatClampNeg (9 : Int32).toNatClampNeg))), (a3, .inl (cI, 9, .inl (va_cpy yrt yr (0 : Int32).toNatClampNeg (0 : Int32).toNatClampNeg (9 : Int32).toNatClampNeg))), (h4t, .inr (4, [.ref a1t, .ref a2t, .ref a3t, .int pnt, .int slt, .int drt, .int nwt])), (a1t, .inl (cI, 9, .inl kdt)), (a2t, .inl (cI, 9, .inl bdt)), (a3t, .inl (cI, 9, .inl yrt))] m_X4_become_2 m_X4_become_3 m_X4_become_4 m_X4_become_5 7 3 rfl rfl (by decide) (by decide) (by decide) (by decide) (by decide) (by decide) (by decide) dX4_become_42 rfl ?_
  refine z_aload_n C dX4_become_45 rfl 0 rfl ?_
  refine z_aload_n C dX4_become_46 rfl 1 rfl ?_
  refine z_get (T := TX4) (v := .int pnt) C i_X4_become_4 4 rfl rfl 3 (by decide) m_X4_become_8 rfl rfl dX4_become_47 ?_
  refine z_put (T := TX4) (ty := .int) C [(h4, .inr (4, [.ref a1, .ref a2, .ref a3, .int pnt, .int sl, .int dr, .int nw])), (a1, .inl (cI, 9, .inl (va_cpy kdt kd (0 : Int32).toNatClampNeg (0 : Int32).toNatClampNeg (9 : Int32).toNatClampNeg))), (a2, .inl (cI, 9, .inl (va_cpy bdt bd (0 : Int32).toNatClampNeg (0 : Int32).toNatClampNeg (9 : Int32).toNatClampNeg))), (a3, .inl (cI, 9, .inl (va_cpy yrt yr (0 : Int32).toNatClampNeg (0 : Int32).toNatClampNeg (9 : Int32).toNatClampNeg))), (h4t, .inr (4, [.ref a1t, .ref a2t, .ref a3t, .int pnt, .int slt, .int drt, .int nwt])), (a1t, .inl (cI, 9, .inl kdt)), (a2t, .inl (cI, 9, .inl bdt)), (a3t, .inl (cI, 9, .inl yrt))] i_X4_become_4 tyX4 tyX4_ok nmX4 0 rfl rfl 3 (by decide) m_X4_become_8 rfl rfl (by decide +kernel) rfl rfl (Nat.le_of_ble_eq_true rfl) dX4_become_50 rfl ?_
  refine z_aload_n C dX4_become_53 rfl 0 rfl ?_
  refine z_aload_n C dX4_become_54 rfl 1 rfl ?_
  refine z_get (T := TX4) (v := .int slt) C i_X4_become_4 4 rfl rfl 4 (by decide) m_X4_become_9 rfl rfl dX4_become_55 ?_
  refine z_put (T := TX4) (ty := .int) C [(h4, .inr (4, [.ref a1, .ref a2, .ref a3, .int pnt, .int slt, .int dr, .int nw])), (a1, .inl (cI, 9, .inl (va_cpy kdt kd (0 : Int32).toNatClampNeg (0 : Int32).toNatClampNeg (9 : Int32).toNatClampNeg))), (a2, .inl (cI, 9, .inl (va_cpy bdt bd (0 : Int32).toNatClampNeg (0 : Int32).toNatClampNeg (9 : Int32).toNatClampNeg))), (a3, .inl (cI, 9, .inl (va_cpy yrt yr (0 : Int32).toNatClampNeg (0 : Int32).toNatClampNeg (9 : Int32).toNatClampNeg))), (h4t, .inr (4, [.ref a1t, .ref a2t, .ref a3t, .int pnt, .int slt, .int drt, .int nwt])), (a1t, .inl (cI, 9, .inl kdt)), (a2t, .inl (cI, 9, .inl bdt)), (a3t, .inl (cI, 9, .inl yrt))] i_X4_become_4 tyX4 tyX4_ok nmX4 0 rfl rfl 4 (by decide) m_X4_become_9 rfl rfl (by decide +kernel) rfl rfl (Nat.le_of_ble_eq_true rfl) dX4_become_58 rfl ?_
  refine z_aload_n C dX4_become_61 rfl 0 rfl ?_
  refine z_aload_n C dX4_become_62 rfl 1 rfl ?_
  refine z_get (T := TX4) (v := .int drt) C i_X4_become_4 4 rfl rfl 5 (by decide) m_X4_become_10 rfl rfl dX4_become_63 ?_
  refine z_put (T := TX4) (ty := .int) C [(h4, .inr (4, [.ref a1, .ref a2, .ref a3, .int pnt, .int slt, .int drt, .int nw])), (a1, .inl (cI, 9, .inl (va_cpy kdt kd (0 : Int32).toNatClampNeg (0 : Int32).toNatClampNeg (9 : Int32).toNatClampNeg))), (a2, .inl (cI, 9, .inl (va_cpy bdt bd (0 : Int32).toNatClampNeg (0 : Int32).toNatClampNeg (9 : Int32).toNatClampNeg))), (a3, .inl (cI, 9, .inl (va_cpy yrt yr (0 : Int32).toNatClampNeg (0 : Int32).toNatClampNeg (9 : Int32).toNatClampNeg))), (h4t, .inr (4, [.ref a1t, .ref a2t, .ref a3t, .int pnt, .int slt, .int drt, .int nwt])), (a1t, .inl (cI, 9, .inl kdt)), (a2t, .inl (cI, 9, .inl bdt)), (a3t, .inl (cI, 9, .inl yrt))] i_X4_become_4 tyX4 tyX4_ok nmX4 0 rfl rfl 5 (by decide) m_X4_become_10 rfl rfl (by decide +kernel) rfl rfl (Nat.le_of_ble_eq_true rfl) dX4_become_66 rfl ?_
  refine z_aload_n C dX4_become_69 rfl 0 rfl ?_
  refine z_aload_n C dX4_become_70 rfl 1 rfl ?_
  refine z_get (T := TX4) (v := .int nwt) C i_X4_become_4 4 rfl rfl 6 (by decide) m_X4_become_11 rfl rfl dX4_become_71 ?_
  refine z_put (T := TX4) (ty := .int) C [(h4, .inr (4, [.ref a1, .ref a2, .ref a3, .int pnt, .int slt, .int drt, .int nwt])), (a1, .inl (cI, 9, .inl (va_cpy kdt kd (0 : Int32).toNatClampNeg (0 : Int32).toNatClampNeg (9 : Int32).toNatClampNeg))), (a2, .inl (cI, 9, .inl (va_cpy bdt bd (0 : Int32).toNatClampNeg (0 : Int32).toNatClampNeg (9 : Int32).toNatClampNeg))), (a3, .inl (cI, 9, .inl (va_cpy yrt yr (0 : Int32).toNatClampNeg (0 : Int32).toNatClampNeg (9 : Int32).toNatClampNeg))), (h4t, .inr (4, [.ref a1t, .ref a2t, .ref a3t, .int pnt, .int slt, .int drt, .int nwt])), (a1t, .inl (cI, 9, .inl kdt)), (a2t, .inl (cI, 9, .inl bdt)), (a3t, .inl (cI, 9, .inl yrt))] i_X4_become_4 tyX4 tyX4_ok nmX4 0 rfl rfl 6 (by decide) m_X4_become_11 rfl rfl (by decide +kernel) rfl rfl (Nat.le_of_ble_eq_true rfl) dX4_become_74 rfl ?_
  exact z_vretW C hr hlk (by rw [hf]) dX4_become_77
-- X3_begin
theorem i_X3_begin_3 : ∀ w ∈ u_ws RX3 TX3 3, w ∈ wsX3_begin := by decide +kernel
theorem m_X3_begin_1 : Cond.fieldLink RX3 15 "WishPins$Sheet" "lane" "I" ∈ wsX3_begin := List.mem_of_getElem? (i := 1) rfl
theorem m_X3_begin_2 : Cond.methodLink RX3 19 Lib.Math.min.name ∈ wsX3_begin := List.mem_of_getElem? (i := 2) rfl
theorem m_X3_begin_3 : Cond.static Lib.Math.min.name ∈ wsX3_begin := List.mem_of_getElem? (i := 3) rfl
theorem m_X3_begin_4 : Cond.initialized "java/lang/Math" ∈ wsX3_begin := List.mem_of_getElem? (i := 4) rfl
theorem m_X3_begin_5 : Cond.code Lib.Math.min.name Lib.Math.min.code 2 (some .int) ∈ wsX3_begin := List.mem_of_getElem? (i := 5) rfl
theorem m_X3_begin_6 : Cond.methodLink RX3 25 Lib.Math.max.name ∈ wsX3_begin := List.mem_of_getElem? (i := 6) rfl
theorem m_X3_begin_7 : Cond.static Lib.Math.max.name ∈ wsX3_begin := List.mem_of_getElem? (i := 7) rfl
theorem m_X3_begin_8 : Cond.code Lib.Math.max.name Lib.Math.max.code 2 (some .int) ∈ wsX3_begin := List.mem_of_getElem? (i := 8) rfl
theorem m_X3_begin_9 : Cond.fieldLink RX3 28 "WishPins$Sheet" "length" "I" ∈ wsX3_begin := List.mem_of_getElem? (i := 9) rfl
theorem m_X3_begin_10 : Cond.fieldLink RX3 9 "WishPins$Sheet" "cells" "[I" ∈ wsX3_begin := List.mem_of_getElem? (i := 10) rfl
def F_X3_begin_k21 (la : Int32) (n : Int32) (x3_21 : Int32) (cl_21 : Nat → Int32) : Int32 × Int32 × (Nat → Int32) :=
  (la, (if (0 : Int32) < (if (60 : Int32) < n then (60 : Int32) else n) then (if (60 : Int32) < n then (60 : Int32) else n) else (0 : Int32)), cl_21)
def F_X3_begin_l21 (K_ : Int32 → (Nat → Int32) → Int32 × Int32 × (Nat → Int32)) : Nat → Int32 → (Nat → Int32) → Int32 × Int32 × (Nat → Int32)
  | 0, x3_21, cl_21 => K_ x3_21 cl_21
  | d21 + 1, x3_21, cl_21 => (if (60 : Int32) ≤ x3_21 then (K_ x3_21 cl_21) else (F_X3_begin_l21 K_ d21 (x3_21 + (1 : Int32)) (upd cl_21 x3_21.toNatClampNeg (0 : Int32))))
def F_X3_begin (cl : Nat → Int32) (la : Int32) (n : Int32) : Int32 × Int32 × (Nat → Int32) :=
  (F_X3_begin_l21 (F_X3_begin_k21 la n) 61 (0 : Int32) cl)
set_option maxHeartbeats 4000000 in
set_option maxRecDepth 100000 in
theorem c_X3_begin (l : Launch) (D : va_G) (cI cO : ClassId) (h3 : Nat) (b1 : Nat) (ln : Int32) (lg : Int32) (cl : Nat → Int32) (la : Int32) (n : Int32) : zW l yX3_begin wsX3_begin ({ frames := 1, cells := 0, slots := 0, locals := 21 } : Room) D cI cO [.ref h3, .int la, .int n] [(h3, .inr (3, [.ref b1, .int ln, .int lg])), (b1, .inl (cI, 60, .inl cl))] [(h3, .inr (3, [.ref b1, .int ((F_X3_begin cl la n).1), .int ((F_X3_begin cl la n).2.1)])), (b1, .inl (cI, 60, .inl ((F_X3_begin cl la n).2.2)))] none := by
  refine zW_of (nL := 4) (cc := cX3_begin) (ret := none) (lv := [(0, .ref h3), (1, .int la), (2, .int n)]) (by decide +kernel) rfl (Nat.le_of_ble_eq_true rfl) rfl (fun p e s m args below meth c C hr hlk => ?_)
  have hf := F_X3_begin.eq_1 cl la n
  refine z_aload_n C dX3_begin_0 rfl 0 rfl ?_
  refine z_iload_n C dX3_begin_1 rfl 1 rfl ?_
  refine z_put (T := TX3) (ty := .int) C [(h3, .inr (3, [.ref b1, .int la, .int lg])), (b1, .inl (cI, 60, .inl cl))] i_X3_begin_3 tyX3 tyX3_ok nmX3 0 rfl rfl 1 (by decide) m_X3_begin_1 rfl rfl (by decide +kernel) rfl rfl (Nat.le_of_ble_eq_true rfl) dX3_begin_2 rfl ?_
  refine z_aload_n C dX3_begin_5 rfl 0 rfl ?_
  refine z_iconst (v := (0 : Int32)) C dX3_begin_6 (by decide) ?_
  refine z_iload_n C dX3_begin_7 rfl 2 rfl ?_
  refine z_bipush (v := (60 : Int32)) C dX3_begin_8 (by decide) ?_
  refine z_min C m_X3_begin_2 m_X3_begin_3 m_X3_begin_4 m_X3_begin_5 (by decide) (Nat.le_of_ble_eq_true rfl) (Nat.zero_le _) (Nat.zero_le _) dX3_begin_10 ?_
  refine z_max C m_X3_begin_6 m_X3_begin_7 m_X3_begin_4 m_X3_begin_8 (by decide) (Nat.le_of_ble_eq_true rfl) (Nat.zero_le _) (Nat.zero_le _) dX3_begin_13 ?_
  refine z_put (T := TX3) (ty := .int) C [(h3, .inr (3, [.ref b1, .int la, .int (if (0 : Int32) < (if (60 : Int32) < n then (60 : Int32) else n) then (if (60 : Int32) < n then (60 : Int32) else n) else (0 : Int32))])), (b1, .inl (cI, 60, .inl cl))] i_X3_begin_3 tyX3 tyX3_ok nmX3 0 rfl rfl 2 (by decide) m_X3_begin_9 rfl rfl (by decide +kernel) rfl rfl (Nat.le_of_ble_eq_true rfl) dX3_begin_16 rfl ?_
  refine z_iconst (v := (0 : Int32)) C dX3_begin_19 (by decide) ?_
  refine z_istore_n C [(0, .ref h3), (1, .int la), (2, .int n), (3, .int (0 : Int32))] dX3_begin_20 rfl (by decide) [1, 2, 3, 0] rfl ?_
  have X21 : ∀ (x3_21 : Int32) (cl_21 : Nat → Int32), F_X3_begin cl la n = (F_X3_begin_k21 la n) x3_21 cl_21 → zG p l e ({ frames := 1, cells := 0, slots := 0, locals := 21 } : Room) s m args below meth c D (zA [(h3, .inr (3, [.ref b1, .int ln, .int lg])), (b1, .inl (cI, 60, .inl cl))]) (zXw (zA [(h3, .inr (3, [.ref b1, .int ln, .int lg])), (b1, .inl (cI, 60, .inl cl))]) s.heap) 4 0 0 (MQ below (zQw D [(h3, .inr (3, [.ref b1, .int ((F_X3_begin cl la n).1), .int ((F_X3_begin cl la n).2.1)])), (b1, .inl (cI, 60, .inl ((F_X3_begin cl la n).2.2)))] (zA [(h3, .inr (3, [.ref b1, .int ln, .int lg])), (b1, .inl (cI, 60, .inl cl))]) none) args s 0 0 (zA [(h3, .inr (3, [.ref b1, .int ln, .int lg])), (b1, .inl (cI, 60, .inl cl))])) 40 [(0, .ref h3), (1, .int la), (2, .int n), (3, .int x3_21)] [] [(h3, .inr (3, [.ref b1, .int la, .int (if (0 : Int32) < (if (60 : Int32) < n then (60 : Int32) else n) then (if (60 : Int32) < n then (60 : Int32) else n) else (0 : Int32))])), (b1, .inl (cI, 60, .inl cl_21))] := by
    intro x3_21 cl_21 hf
    rw [F_X3_begin_k21] at hf
    exact z_vretW C hr hlk (by rw [hf]) dX3_begin_40
  have L21 : ∀ (d21 : Nat) (j : Nat) (x3_21 : Int32) (cl_21 : Nat → Int32) (e3 : x3_21 = nI j) (hj : j ≤ 60) (hd : 60 < j + d21), F_X3_begin cl la n = F_X3_begin_l21 (F_X3_begin_k21 la n) d21 x3_21 cl_21 → zG p l e ({ frames := 1, cells := 0, slots := 0, locals := 21 } : Room) s m args below meth c D (zA [(h3, .inr (3, [.ref b1, .int ln, .int lg])), (b1, .inl (cI, 60, .inl cl))]) (zXw (zA [(h3, .inr (3, [.ref b1, .int ln, .int lg])), (b1, .inl (cI, 60, .inl cl))]) s.heap) 4 0 0 (MQ below (zQw D [(h3, .inr (3, [.ref b1, .int ((F_X3_begin cl la n).1), .int ((F_X3_begin cl la n).2.1)])), (b1, .inl (cI, 60, .inl ((F_X3_begin cl la n).2.2)))] (zA [(h3, .inr (3, [.ref b1, .int ln, .int lg])), (b1, .inl (cI, 60, .inl cl))]) none) args s 0 0 (zA [(h3, .inr (3, [.ref b1, .int ln, .int lg])), (b1, .inl (cI, 60, .inl cl))])) 21 [(0, .ref h3), (1, .int la), (2, .int n), (3, .int x3_21)] [] [(h3, .inr (3, [.ref b1, .int la, .int (if (0 : Int32) < (if (60 : Int32) < n then (60 : Int32) else n) then (if (60 : Int32) < n then (60 : Int32) else n) else (0 : Int32))])), (b1, .inl (cI, 60, .inl cl_21))] := by
    intro d21
    induction d21 with
    | zero =>
      intro j x3_21 cl_21 e3 hj hd hf
      exfalso; omega
    | succ d21 ih21 =>
      intro j x3_21 cl_21 e3 hj hd hf
      rw [F_X3_begin_l21] at hf
      refine z_iload_n C dX3_begin_21 rfl 3 rfl ?_
      refine z_bipush (v := (60 : Int32)) C dX3_begin_22 (by decide) ?_
      refine z_icmp_ge (tgt := 40) C dX3_begin_24 (by decide) (fun c24 => ?_) (fun c24 => ?_)
      · rw [if_pos c24] at hf
        exact X21 x3_21 cl_21  hf
      · rw [if_neg c24] at hf
        refine z_aload_n C dX3_begin_27 rfl 0 rfl ?_
        refine z_get (T := TX3) (v := .ref b1) C i_X3_begin_3 0 rfl rfl 0 (by decide) m_X3_begin_10 rfl rfl dX3_begin_28 ?_
        refine z_iload_n C dX3_begin_31 rfl 3 rfl ?_
        refine z_iconst (v := (0 : Int32)) C dX3_begin_32 (by decide) ?_
        refine z_ast C [(h3, .inr (3, [.ref b1, .int la, .int (if (0 : Int32) < (if (60 : Int32) < n then (60 : Int32) else n) then (if (60 : Int32) < n then (60 : Int32) else n) else (0 : Int32))])), (b1, .inl (cI, 60, .inl (upd cl_21 x3_21.toNatClampNeg (0 : Int32))))] 1 rfl (z_ixN e3 (z_jlt e3 (by omega) (by decide) c24) (by decide)) dX3_begin_33 rfl ?_
        refine z_iinc (v := (x3_21 + (1 : Int32))) C [(0, .ref h3), (1, .int la), (2, .int n), (3, .int (x3_21 + (1 : Int32)))] dX3_begin_34 3 rfl (by rfl) (by decide) [1, 2, 3, 0] rfl ?_
        refine z_goto (tgt := 21) C dX3_begin_37 (by decide) ?_
        exact ih21 (j + 1) (x3_21 + (1 : Int32)) (upd cl_21 x3_21.toNatClampNeg (0 : Int32)) (by rw [e3]; exact nI_1 j) (by have := z_jlt (n := 60) e3 (by omega) (by decide) c24; omega) (by omega) hf
  exact L21 61 0 (0 : Int32) cl nI_0.symm (Nat.zero_le _) (by omega) hf
-- X3_end
theorem i_X3_end_3 : ∀ w ∈ u_ws RX3 TX3 3, w ∈ wsX3_end := by decide +kernel
theorem m_X3_end_1 : Cond.fieldLink RX3 15 "WishPins$Sheet" "lane" "I" ∈ wsX3_end := List.mem_of_getElem? (i := 1) rfl
theorem m_X3_end_2 : Cond.fieldLink RX3 28 "WishPins$Sheet" "length" "I" ∈ wsX3_end := List.mem_of_getElem? (i := 2) rfl
def F_X3_end : Int32 × Int32 :=
  ((-1 : Int32), (0 : Int32))
set_option maxHeartbeats 4000000 in
set_option maxRecDepth 100000 in
theorem c_X3_end (l : Launch) (D : va_G) (cI cO : ClassId) (h3 : Nat) (b1 : Nat) (ln : Int32) (lg : Int32) : zW l yX3_end wsX3_end ({ frames := 0, cells := 0, slots := 0, locals := 0 } : Room) D cI cO [.ref h3] [(h3, .inr (3, [.ref b1, .int ln, .int lg]))] [(h3, .inr (3, [.ref b1, .int ((F_X3_end).1), .int ((F_X3_end).2)]))] none := by
  refine zW_of (nL := 1) (cc := cX3_end) (ret := none) (lv := [(0, .ref h3)]) (by decide +kernel) rfl (Nat.le_of_ble_eq_true rfl) rfl (fun p e s m args below meth c C hr hlk => ?_)
  have hf := F_X3_end.eq_1
  refine z_aload_n C dX3_end_0 rfl 0 rfl ?_
  refine z_iconst (v := (-1 : Int32)) C dX3_end_1 (by decide) ?_
  refine z_put (T := TX3) (ty := .int) C [(h3, .inr (3, [.ref b1, .int (-1 : Int32), .int lg]))] i_X3_end_3 tyX3 tyX3_ok nmX3 0 rfl rfl 1 (by decide) m_X3_end_1 rfl rfl (by decide +kernel) rfl rfl (Nat.le_of_ble_eq_true rfl) dX3_end_2 rfl ?_
  refine z_aload_n C dX3_end_5 rfl 0 rfl ?_
  refine z_iconst (v := (0 : Int32)) C dX3_end_6 (by decide) ?_
  refine z_put (T := TX3) (ty := .int) C [(h3, .inr (3, [.ref b1, .int (-1 : Int32), .int (0 : Int32)]))] i_X3_end_3 tyX3 tyX3_ok nmX3 0 rfl rfl 2 (by decide) m_X3_end_2 rfl rfl (by decide +kernel) rfl rfl (Nat.le_of_ble_eq_true rfl) dX3_end_7 rfl ?_
  exact z_vretW C hr hlk (by rw [hf]) dX3_end_10
-- X3_hasRow
theorem i_X3_hasRow_3 : ∀ w ∈ u_ws RX3 TX3 3, w ∈ wsX3_hasRow := by decide +kernel
theorem m_X3_hasRow_1 : Cond.fieldLink RX3 15 "WishPins$Sheet" "lane" "I" ∈ wsX3_hasRow := List.mem_of_getElem? (i := 1) rfl
def F_X3_hasRow (ln : Int32) : Int32 :=
  (if ln = (-1 : Int32) then (0 : Int32) else (1 : Int32))
set_option maxHeartbeats 4000000 in
set_option maxRecDepth 100000 in
theorem c_X3_hasRow (l : Launch) (D : va_G) (cI cO : ClassId) (h3 : Nat) (b1 : Nat) (ln : Int32) (lg : Int32) : zR l yX3_hasRow wsX3_hasRow ({ frames := 0, cells := 0, slots := 0, locals := 0 } : Room) D cI cO [.ref h3] [(h3, .inr (3, [.ref b1, .int ln, .int lg]))] (some (.int (F_X3_hasRow ln))) := by
  refine zR_of (nL := 1) (cc := cX3_hasRow) (ret := some .boolean) (lv := [(0, .ref h3)]) (by decide +kernel) rfl (Nat.le_of_ble_eq_true rfl) rfl (fun p e s m args below meth c C hr hlk => ?_)
  have hf := F_X3_hasRow.eq_1 ln
  refine z_aload_n C dX3_hasRow_0 rfl 0 rfl ?_
  refine z_get (T := TX3) (v := .int ln) C i_X3_hasRow_3 0 rfl rfl 1 (by decide) m_X3_hasRow_1 rfl rfl dX3_hasRow_1 ?_
  refine z_iconst (v := (-1 : Int32)) C dX3_hasRow_4 (by decide) ?_
  refine z_icmp_eq (tgt := 12) C dX3_hasRow_5 (by decide) (fun c5 => ?_) (fun c5 => ?_)
  · rw [if_pos c5] at hf
    refine z_iconst (v := (0 : Int32)) C dX3_hasRow_12 (by decide) ?_
    exact z_zretR C hr hlk rfl (by rw [hf]) dX3_hasRow_13
  · rw [if_neg c5] at hf
    refine z_iconst (v := (1 : Int32)) C dX3_hasRow_8 (by decide) ?_
    refine z_goto (tgt := 13) C dX3_hasRow_9 (by decide) ?_
    exact z_zretR C hr hlk rfl (by rw [hf]) dX3_hasRow_13
-- X3_hasCells
theorem i_X3_hasCells_3 : ∀ w ∈ u_ws RX3 TX3 3, w ∈ wsX3_hasCells := by decide +kernel
theorem m_X3_hasCells_1 : Cond.fieldLink RX3 28 "WishPins$Sheet" "length" "I" ∈ wsX3_hasCells := List.mem_of_getElem? (i := 1) rfl
def F_X3_hasCells (lg : Int32) (i : Int32) (n : Int32) : Int32 :=
  (if i < 0 then (0 : Int32) else (if lg < i then (0 : Int32) else (if n < 0 then (0 : Int32) else (if (lg - i) < n then (0 : Int32) else (1 : Int32)))))
set_option maxHeartbeats 4000000 in
set_option maxRecDepth 100000 in
theorem c_X3_hasCells (l : Launch) (D : va_G) (cI cO : ClassId) (h3 : Nat) (b1 : Nat) (ln : Int32) (lg : Int32) (i : Int32) (n : Int32) : zR l yX3_hasCells wsX3_hasCells ({ frames := 0, cells := 0, slots := 0, locals := 0 } : Room) D cI cO [.ref h3, .int i, .int n] [(h3, .inr (3, [.ref b1, .int ln, .int lg]))] (some (.int (F_X3_hasCells lg i n))) := by
  refine zR_of (nL := 3) (cc := cX3_hasCells) (ret := some .boolean) (lv := [(0, .ref h3), (1, .int i), (2, .int n)]) (by decide +kernel) rfl (Nat.le_of_ble_eq_true rfl) rfl (fun p e s m args below meth c C hr hlk => ?_)
  have hf := F_X3_hasCells.eq_1 lg i n
  refine z_iload_n C dX3_hasCells_0 rfl 1 rfl ?_
  refine z_if_lt (tgt := 30) C dX3_hasCells_1 (by decide) (fun c1 => ?_) (fun c1 => ?_)
  · rw [if_pos c1] at hf
    refine z_iconst (v := (0 : Int32)) C dX3_hasCells_30 (by decide) ?_
    exact z_zretR C hr hlk rfl (by rw [hf]) dX3_hasCells_31
  · rw [if_neg c1] at hf
    refine z_iload_n C dX3_hasCells_4 rfl 1 rfl ?_
    refine z_aload_n C dX3_hasCells_5 rfl 0 rfl ?_
    refine z_get (T := TX3) (v := .int lg) C i_X3_hasCells_3 0 rfl rfl 2 (by decide) m_X3_hasCells_1 rfl rfl dX3_hasCells_6 ?_
    refine z_icmp_gt (tgt := 30) C dX3_hasCells_9 (by decide) (fun c9 => ?_) (fun c9 => ?_)
    · rw [if_pos c9] at hf
      refine z_iconst (v := (0 : Int32)) C dX3_hasCells_30 (by decide) ?_
      exact z_zretR C hr hlk rfl (by rw [hf]) dX3_hasCells_31
    · rw [if_neg c9] at hf
      refine z_iload_n C dX3_hasCells_12 rfl 2 rfl ?_
      refine z_if_lt (tgt := 30) C dX3_hasCells_13 (by decide) (fun c13 => ?_) (fun c13 => ?_)
      · rw [if_pos c13] at hf
        refine z_iconst (v := (0 : Int32)) C dX3_hasCells_30 (by decide) ?_
        exact z_zretR C hr hlk rfl (by rw [hf]) dX3_hasCells_31
      · rw [if_neg c13] at hf
        refine z_iload_n C dX3_hasCells_16 rfl 2 rfl ?_
        refine z_aload_n C dX3_hasCells_17 rfl 0 rfl ?_
        refine z_get (T := TX3) (v := .int lg) C i_X3_hasCells_3 0 rfl rfl 2 (by decide) m_X3_hasCells_1 rfl rfl dX3_hasCells_18 ?_
        refine z_iload_n C dX3_hasCells_21 rfl 1 rfl ?_
        refine z_isub C dX3_hasCells_22 ?_
        refine z_icmp_gt (tgt := 30) C dX3_hasCells_23 (by decide) (fun c23 => ?_) (fun c23 => ?_)
        · rw [if_pos c23] at hf
          refine z_iconst (v := (0 : Int32)) C dX3_hasCells_30 (by decide) ?_
          exact z_zretR C hr hlk rfl (by rw [hf]) dX3_hasCells_31
        · rw [if_neg c23] at hf
          refine z_iconst (v := (1 : Int32)) C dX3_hasCells_26 (by decide) ?_
          refine z_goto (tgt := 31) C dX3_hasCells_27 (by decide) ?_
          exact z_zretR C hr hlk rfl (by rw [hf]) dX3_hasCells_31
-- X3_faultAs
theorem i_X3_faultAs_3 : ∀ w ∈ u_ws RX3 TX3 3, w ∈ wsX3_faultAs := by decide +kernel
theorem m_X3_faultAs_1 : Cond.fieldLink RX3 15 "WishPins$Sheet" "lane" "I" ∈ wsX3_faultAs := List.mem_of_getElem? (i := 1) rfl
def F_X3_faultAs (ln : Int32) (la : Int32) : Int32 :=
  (if (F_X3_hasRow ln) = 0 then (1 : Int32) else (if ln = la then (0 : Int32) else (2 : Int32)))
set_option maxHeartbeats 4000000 in
set_option maxRecDepth 100000 in
theorem c_X3_faultAs (l : Launch) (D : va_G) (cI cO : ClassId) (h3 : Nat) (b1 : Nat) (ln : Int32) (lg : Int32) (la : Int32) : zR l yX3_faultAs wsX3_faultAs ({ frames := 1, cells := 0, slots := 0, locals := 20 } : Room) D cI cO [.ref h3, .int la] [(h3, .inr (3, [.ref b1, .int ln, .int lg]))] (some (.int (F_X3_faultAs ln la))) := by
  refine zR_of (nL := 2) (cc := cX3_faultAs) (ret := some .int) (lv := [(0, .ref h3), (1, .int la)]) (by decide +kernel) rfl (Nat.le_of_ble_eq_true rfl) rfl (fun p e s m args below meth c C hr hlk => ?_)
  have hf := F_X3_faultAs.eq_1 ln la
  refine z_aload_n C dX3_faultAs_0 rfl 0 rfl ?_
  refine z_cVR (As := []) C (c_X3_hasRow l D cI cO h3 b1 ln lg) (cwV 0 C.2.2.2.2.1 gX3_faultAs_X3_hasRow rfl rfl rfl hdV_X3_hasRow ⟨Nat.le_of_ble_eq_true rfl, Nat.le_of_ble_eq_true rfl⟩) [0] rfl rfl 0 rfl rfl rfl _ rfl (Nat.le_of_ble_eq_true rfl) ⟨Nat.zero_le _, Nat.zero_le _⟩ dX3_faultAs_1 ?_
  refine z_if_ne (tgt := 9) C dX3_faultAs_4 (by decide) (fun c4 => ?_) (fun c4 => ?_)
  · rw [if_neg c4] at hf
    refine z_aload_n C dX3_faultAs_9 rfl 0 rfl ?_
    refine z_get (T := TX3) (v := .int ln) C i_X3_faultAs_3 0 rfl rfl 1 (by decide) m_X3_faultAs_1 rfl rfl dX3_faultAs_10 ?_
    refine z_iload_n C dX3_faultAs_13 rfl 1 rfl ?_
    refine z_icmp_ne (tgt := 21) C dX3_faultAs_14 (by decide) (fun c14 => ?_) (fun c14 => ?_)
    · rw [if_neg c14] at hf
      refine z_iconst (v := (2 : Int32)) C dX3_faultAs_21 (by decide) ?_
      exact z_iretR C hr hlk (by rw [hf]) dX3_faultAs_22
    · rw [if_pos c14] at hf
      refine z_iconst (v := (0 : Int32)) C dX3_faultAs_17 (by decide) ?_
      refine z_goto (tgt := 22) C dX3_faultAs_18 (by decide) ?_
      exact z_iretR C hr hlk (by rw [hf]) dX3_faultAs_22
  · rw [if_pos c4] at hf
    refine z_iconst (v := (1 : Int32)) C dX3_faultAs_7 (by decide) ?_
    exact z_iretR C hr hlk (by rw [hf]) dX3_faultAs_8
-- X3_faultOfCells
def F_X3_faultOfCells (ln : Int32) (lg : Int32) (la : Int32) (i : Int32) (n : Int32) : Int32 :=
  (if (F_X3_faultAs ln la) = 0 then (if (F_X3_hasCells lg i n) = 0 then (3 : Int32) else (F_X3_faultAs ln la)) else (F_X3_faultAs ln la))
set_option maxHeartbeats 4000000 in
set_option maxRecDepth 100000 in
theorem c_X3_faultOfCells (l : Launch) (D : va_G) (cI cO : ClassId) (h3 : Nat) (b1 : Nat) (ln : Int32) (lg : Int32) (la : Int32) (i : Int32) (n : Int32) : zR l yX3_faultOfCells wsX3_faultOfCells ({ frames := 2, cells := 0, slots := 0, locals := 41 } : Room) D cI cO [.ref h3, .int la, .int i, .int n] [(h3, .inr (3, [.ref b1, .int ln, .int lg]))] (some (.int (F_X3_faultOfCells ln lg la i n))) := by
  refine zR_of (nL := 5) (cc := cX3_faultOfCells) (ret := some .int) (lv := [(0, .ref h3), (1, .int la), (2, .int i), (3, .int n)]) (by decide +kernel) rfl (Nat.le_of_ble_eq_true rfl) rfl (fun p e s m args below meth c C hr hlk => ?_)
  have hf := F_X3_faultOfCells.eq_1 ln lg la i n
  refine z_aload_n C dX3_faultOfCells_0 rfl 0 rfl ?_
  refine z_iload_n C dX3_faultOfCells_1 rfl 1 rfl ?_
  refine z_cVR (As := [.int la]) C (c_X3_faultAs l D cI cO h3 b1 ln lg la) (cwV 1 C.2.2.2.2.1 gX3_faultOfCells_X3_faultAs rfl rfl rfl hdV_X3_faultAs ⟨Nat.le_of_ble_eq_true rfl, Nat.le_of_ble_eq_true rfl⟩) [0] rfl rfl 0 rfl rfl rfl _ rfl (Nat.le_of_ble_eq_true rfl) ⟨Nat.zero_le _, Nat.zero_le _⟩ dX3_faultOfCells_2 ?_
  refine z_istore C [(0, .ref h3), (1, .int la), (2, .int i), (3, .int n), (4, .int (F_X3_faultAs ln la))] dX3_faultOfCells_5 (by decide) [1, 2, 3, 4, 0] rfl ?_
  refine z_iload C dX3_faultOfCells_7 4 rfl ?_
  refine z_if_ne (tgt := 24) C dX3_faultOfCells_9 (by decide) (fun c9 => ?_) (fun c9 => ?_)
  · rw [if_neg c9] at hf
    refine z_iload C dX3_faultOfCells_24 4 rfl ?_
    exact z_iretR C hr hlk (by rw [hf]) dX3_faultOfCells_26
  · rw [if_pos c9] at hf
    refine z_aload_n C dX3_faultOfCells_12 rfl 0 rfl ?_
    refine z_iload_n C dX3_faultOfCells_13 rfl 2 rfl ?_
    refine z_iload_n C dX3_faultOfCells_14 rfl 3 rfl ?_
    refine z_cVR (As := [.int i, .int n]) C (c_X3_hasCells l D cI cO h3 b1 ln lg i n) (cwV 2 C.2.2.2.2.1 gX3_faultOfCells_X3_hasCells rfl rfl rfl hdV_X3_hasCells ⟨Nat.le_of_ble_eq_true rfl, Nat.le_of_ble_eq_true rfl⟩) [0] rfl rfl 0 rfl rfl rfl _ rfl (Nat.le_of_ble_eq_true rfl) ⟨Nat.zero_le _, Nat.zero_le _⟩ dX3_faultOfCells_15 ?_
    refine z_if_ne (tgt := 24) C dX3_faultOfCells_18 (by decide) (fun c18 => ?_) (fun c18 => ?_)
    · rw [if_neg c18] at hf
      refine z_iload C dX3_faultOfCells_24 4 rfl ?_
      exact z_iretR C hr hlk (by rw [hf]) dX3_faultOfCells_26
    · rw [if_pos c18] at hf
      refine z_iconst (v := (3 : Int32)) C dX3_faultOfCells_21 (by decide) ?_
      refine z_istore C [(0, .ref h3), (1, .int la), (2, .int i), (3, .int n), (4, .int (3 : Int32))] dX3_faultOfCells_22 (by decide) [1, 2, 3, 4, 0] rfl ?_
      refine z_iload C dX3_faultOfCells_24 4 rfl ?_
      exact z_iretR C hr hlk (by rw [hf]) dX3_faultOfCells_26
theorem hasCells_in {lg i n : Int32} (hlg : lg ≤ 60) (h : ¬ F_X3_hasCells lg i n = 0) : ∃ a b : Nat, i = nI a ∧ n = nI b ∧ a + b ≤ 60 ∧ ((a + b : Nat) : Int) ≤ lg.toInt := by
  rw [F_X3_hasCells] at h
  by_cases c1 : i < 0
  · rw [if_pos c1] at h; exact absurd rfl h
  rw [if_neg c1] at h
  by_cases c2 : lg < i
  · rw [if_pos c2] at h; exact absurd rfl h
  rw [if_neg c2] at h
  by_cases c3 : n < 0
  · rw [if_pos c3] at h; exact absurd rfl h
  rw [if_neg c3] at h
  by_cases c4 : lg - i < n
  · rw [if_pos c4] at h; exact absurd rfl h
  obtain ⟨a, ha, rfl⟩ := nI_of c1
  obtain ⟨b, hb, rfl⟩ := nI_of c3
  have z : (0 : Int32).toInt = 0 := by decide
  have e60 : (60 : Int32).toInt = 60 := by decide
  have h0 := Int32.le_iff_toInt_le.mp hlg
  have h2 : ¬ lg.toInt < (nI a).toInt := fun q => c2 (Int32.lt_iff_toInt_lt.mpr q)
  have h4 : ¬ (lg - nI a).toInt < (nI b).toInt := fun q => c4 (Int32.lt_iff_toInt_lt.mpr q)
  rw [nI_toInt ha] at h2
  have e : (lg - nI a).toInt = lg.toInt - a := by
    rw [Int32.toInt_sub, nI_toInt ha]
    apply Int.bmod_eq_of_le <;> omega
  rw [e, nI_toInt hb] at h4
  exact ⟨a, b, rfl, rfl, by omega, by omega⟩
theorem hasCells_ix {lg i : Int32} (hlg : lg ≤ 60) (h : ¬ F_X3_hasCells lg i 1 = 0) : vp_in i 60 := by
  obtain ⟨a, b, rfl, e, h1, -⟩ := hasCells_in hlg h
  have : b = 1 := by
    have e1 : (1 : Int32).toInt = 1 := by decide
    have := congrArg Int32.toInt e
    rw [e1, nI_toInt (by omega)] at this
    omega
  exact vp_in_nI (by omega) (by omega)
-- X3_at
theorem i_X3_at_3 : ∀ w ∈ u_ws RX3 TX3 3, w ∈ wsX3_at := by decide +kernel
theorem m_X3_at_1 : Cond.fieldLink RX3 9 "WishPins$Sheet" "cells" "[I" ∈ wsX3_at := List.mem_of_getElem? (i := 1) rfl
def F_X3_at (lg : Int32) (cl : Nat → Int32) (i : Int32) : Int32 :=
  (if (F_X3_hasCells lg i (1 : Int32)) = 0 then (0 : Int32) else (cl i.toNatClampNeg))
set_option maxHeartbeats 4000000 in
set_option maxRecDepth 100000 in
theorem c_X3_at (l : Launch) (D : va_G) (cI cO : ClassId) (h3 : Nat) (b1 : Nat) (ln : Int32) (lg : Int32) (cl : Nat → Int32) (i : Int32) (hlg : lg ≤ 60) : zR l yX3_at wsX3_at ({ frames := 1, cells := 0, slots := 0, locals := 22 } : Room) D cI cO [.ref h3, .int i] [(h3, .inr (3, [.ref b1, .int ln, .int lg])), (b1, .inl (cI, 60, .inl cl))] (some (.int (F_X3_at lg cl i))) := by
  refine zR_of (nL := 2) (cc := cX3_at) (ret := some .int) (lv := [(0, .ref h3), (1, .int i)]) (by decide +kernel) rfl (Nat.le_of_ble_eq_true rfl) rfl (fun p e s m args below meth c C hr hlk => ?_)
  have hf := F_X3_at.eq_1 lg cl i
  refine z_aload_n C dX3_at_0 rfl 0 rfl ?_
  refine z_iload_n C dX3_at_1 rfl 1 rfl ?_
  refine z_iconst (v := (1 : Int32)) C dX3_at_2 (by decide) ?_
  refine z_cVR (As := [.int i, .int (1 : Int32)]) C (c_X3_hasCells l D cI cO h3 b1 ln lg i (1 : Int32)) (cwV 2 C.2.2.2.2.1 gX3_at_X3_hasCells rfl rfl rfl hdV_X3_hasCells ⟨Nat.le_of_ble_eq_true rfl, Nat.le_of_ble_eq_true rfl⟩) [0] rfl rfl 0 rfl rfl rfl _ rfl (Nat.le_of_ble_eq_true rfl) ⟨Nat.zero_le _, Nat.zero_le _⟩ dX3_at_3 ?_
  refine z_if_eq (tgt := 18) C dX3_at_6 (by decide) (fun c6 => ?_) (fun c6 => ?_)
  · rw [if_pos c6] at hf
    refine z_iconst (v := (0 : Int32)) C dX3_at_18 (by decide) ?_
    exact z_iretR C hr hlk (by rw [hf]) dX3_at_19
  · rw [if_neg c6] at hf
    refine z_aload_n C dX3_at_9 rfl 0 rfl ?_
    refine z_get (T := TX3) (v := .ref b1) C i_X3_at_3 0 rfl rfl 0 (by decide) m_X3_at_1 rfl rfl dX3_at_10 ?_
    refine z_iload_n C dX3_at_13 rfl 1 rfl ?_
    refine z_ald C 1 rfl (hasCells_ix hlg c6) dX3_at_14 ?_
    refine z_goto (tgt := 19) C dX3_at_15 (by decide) ?_
    exact z_iretR C hr hlk (by rw [hf]) dX3_at_19
-- X3_set
theorem i_X3_set_3 : ∀ w ∈ u_ws RX3 TX3 3, w ∈ wsX3_set := by decide +kernel
theorem m_X3_set_1 : Cond.fieldLink RX3 15 "WishPins$Sheet" "lane" "I" ∈ wsX3_set := List.mem_of_getElem? (i := 1) rfl
theorem m_X3_set_2 : Cond.fieldLink RX3 9 "WishPins$Sheet" "cells" "[I" ∈ wsX3_set := List.mem_of_getElem? (i := 2) rfl
def F_X3_set (ln : Int32) (lg : Int32) (cl : Nat → Int32) (i : Int32) (v : Int32) : (Nat → Int32) :=
  (if (F_X3_hasCells lg i (1 : Int32)) = 0 then cl else (if ln = 0 then (upd cl i.toNatClampNeg v.toInt8.toInt32) else (if ln = (1 : Int32) then (upd cl i.toNatClampNeg v.toInt16.toInt32) else (upd cl i.toNatClampNeg v))))
set_option maxHeartbeats 4000000 in
set_option maxRecDepth 100000 in
theorem c_X3_set (l : Launch) (D : va_G) (cI cO : ClassId) (h3 : Nat) (b1 : Nat) (ln : Int32) (lg : Int32) (cl : Nat → Int32) (i : Int32) (v : Int32) (hlg : lg ≤ 60) : zW l yX3_set wsX3_set ({ frames := 1, cells := 0, slots := 0, locals := 22 } : Room) D cI cO [.ref h3, .int i, .int v] [(h3, .inr (3, [.ref b1, .int ln, .int lg])), (b1, .inl (cI, 60, .inl cl))] [(h3, .inr (3, [.ref b1, .int ln, .int lg])), (b1, .inl (cI, 60, .inl (F_X3_set ln lg cl i v)))] none := by
  refine zW_of (nL := 3) (cc := cX3_set) (ret := none) (lv := [(0, .ref h3), (1, .int i), (2, .int v)]) (by decide +kernel) rfl (Nat.le_of_ble_eq_true rfl) rfl (fun p e s m args below meth c C hr hlk => ?_)
  have hf := F_X3_set.eq_1 ln lg cl i v
  refine z_aload_n C dX3_set_0 rfl 0 rfl ?_
  refine z_iload_n C dX3_set_1 rfl 1 rfl ?_
  refine z_iconst (v := (1 : Int32)) C dX3_set_2 (by decide) ?_
  refine z_cVR (As := [.int i, .int (1 : Int32)]) C (c_X3_hasCells l D cI cO h3 b1 ln lg i (1 : Int32)) (cwV 2 C.2.2.2.2.1 gX3_set_X3_hasCells rfl rfl rfl hdV_X3_hasCells ⟨Nat.le_of_ble_eq_true rfl, Nat.le_of_ble_eq_true rfl⟩) [0] rfl rfl 0 rfl rfl rfl _ rfl (Nat.le_of_ble_eq_true rfl) ⟨Nat.zero_le _, Nat.zero_le _⟩ dX3_set_3 ?_
  refine z_if_ne (tgt := 10) C dX3_set_6 (by decide) (fun c6 => ?_) (fun c6 => ?_)
  · rw [if_neg c6] at hf
    refine z_aload_n C dX3_set_10 rfl 0 rfl ?_
    refine z_get (T := TX3) (v := .int ln) C i_X3_set_3 0 rfl rfl 1 (by decide) m_X3_set_1 rfl rfl dX3_set_11 ?_
    refine z_if_ne (tgt := 28) C dX3_set_14 (by decide) (fun c14 => ?_) (fun c14 => ?_)
    · rw [if_neg c14] at hf
      refine z_aload_n C dX3_set_28 rfl 0 rfl ?_
      refine z_get (T := TX3) (v := .int ln) C i_X3_set_3 0 rfl rfl 1 (by decide) m_X3_set_1 rfl rfl dX3_set_29 ?_
      refine z_iconst (v := (1 : Int32)) C dX3_set_32 (by decide) ?_
      refine z_icmp_ne (tgt := 47) C dX3_set_33 (by decide) (fun c33 => ?_) (fun c33 => ?_)
      · rw [if_neg c33] at hf
        refine z_aload_n C dX3_set_47 rfl 0 rfl ?_
        refine z_get (T := TX3) (v := .ref b1) C i_X3_set_3 0 rfl rfl 0 (by decide) m_X3_set_2 rfl rfl dX3_set_48 ?_
        refine z_iload_n C dX3_set_51 rfl 1 rfl ?_
        refine z_iload_n C dX3_set_52 rfl 2 rfl ?_
        refine z_ast C [(h3, .inr (3, [.ref b1, .int ln, .int lg])), (b1, .inl (cI, 60, .inl (upd cl i.toNatClampNeg v)))] 1 rfl (hasCells_ix hlg c6) dX3_set_53 rfl ?_
        exact z_vretW C hr hlk (by rw [hf]) dX3_set_54
      · rw [if_pos c33] at hf
        refine z_aload_n C dX3_set_36 rfl 0 rfl ?_
        refine z_get (T := TX3) (v := .ref b1) C i_X3_set_3 0 rfl rfl 0 (by decide) m_X3_set_2 rfl rfl dX3_set_37 ?_
        refine z_iload_n C dX3_set_40 rfl 1 rfl ?_
        refine z_iload_n C dX3_set_41 rfl 2 rfl ?_
        refine z_i2s C dX3_set_42 ?_
        refine z_ast C [(h3, .inr (3, [.ref b1, .int ln, .int lg])), (b1, .inl (cI, 60, .inl (upd cl i.toNatClampNeg v.toInt16.toInt32)))] 1 rfl (hasCells_ix hlg c6) dX3_set_43 rfl ?_
        refine z_goto (tgt := 54) C dX3_set_44 (by decide) ?_
        exact z_vretW C hr hlk (by rw [hf]) dX3_set_54
    · rw [if_pos c14] at hf
      refine z_aload_n C dX3_set_17 rfl 0 rfl ?_
      refine z_get (T := TX3) (v := .ref b1) C i_X3_set_3 0 rfl rfl 0 (by decide) m_X3_set_2 rfl rfl dX3_set_18 ?_
      refine z_iload_n C dX3_set_21 rfl 1 rfl ?_
      refine z_iload_n C dX3_set_22 rfl 2 rfl ?_
      refine z_i2b C dX3_set_23 ?_
      refine z_ast C [(h3, .inr (3, [.ref b1, .int ln, .int lg])), (b1, .inl (cI, 60, .inl (upd cl i.toNatClampNeg v.toInt8.toInt32)))] 1 rfl (hasCells_ix hlg c6) dX3_set_24 rfl ?_
      refine z_goto (tgt := 54) C dX3_set_25 (by decide) ?_
      exact z_vretW C hr hlk (by rw [hf]) dX3_set_54
  · rw [if_pos c6] at hf
    exact z_vretW C hr hlk (by rw [hf]) dX3_set_9
theorem dropTop_b (pn : Int32) : (F_X4_dropTop pn).1 = 0 ∨ (F_X4_dropTop pn).1 = 1 := by
  rw [F_X4_dropTop]
  split
  · exact Or.inr rfl
  · exact Or.inl rfl
end
section
-- X2_clear
theorem i_X2_clear_2 : ∀ w ∈ u_ws RX2 TX2 3, w ∈ wsX2_clear := by decide +kernel
theorem m_X2_clear_1 : Cond.fieldLink RX2 18 "WishPins$Readings" "count" "I" ∈ wsX2_clear := List.mem_of_getElem? (i := 1) rfl
def F_X2_clear : Int32 :=
  (0 : Int32)
set_option maxHeartbeats 4000000 in
set_option maxRecDepth 100000 in
theorem c_X2_clear (l : Launch) (D : va_G) (cI cO : ClassId) (h2 : Nat) (e1 : Nat) (e2 : Nat) (rc : Int32) : zW l yX2_clear wsX2_clear ({ frames := 0, cells := 0, slots := 0, locals := 0 } : Room) D cI cO [.ref h2] [(h2, .inr (2, [.ref e1, .ref e2, .int rc]))] [(h2, .inr (2, [.ref e1, .ref e2, .int (F_X2_clear)]))] none := by
  refine zW_of (nL := 1) (cc := cX2_clear) (ret := none) (lv := [(0, .ref h2)]) (by decide +kernel) rfl (Nat.le_of_ble_eq_true rfl) rfl (fun p e s m args below meth c C hr hlk => ?_)
  have hf := F_X2_clear.eq_1
  refine z_aload_n C dX2_clear_0 rfl 0 rfl ?_
  refine z_iconst (v := (0 : Int32)) C dX2_clear_1 (by decide) ?_
  refine z_put (T := TX2) (ty := .int) C [(h2, .inr (2, [.ref e1, .ref e2, .int (0 : Int32)]))] i_X2_clear_2 tyX2 tyX2_ok nmX2 0 rfl rfl 2 (by decide) m_X2_clear_1 rfl rfl (by decide +kernel) rfl rfl (Nat.le_of_ble_eq_true rfl) dX2_clear_2 rfl ?_
  exact z_vretW C hr hlk (by rw [hf]) dX2_clear_5
-- X2_add
theorem i_X2_add_2 : ∀ w ∈ u_ws RX2 TX2 3, w ∈ wsX2_add := by decide +kernel
theorem m_X2_add_1 : Cond.fieldLink RX2 18 "WishPins$Readings" "count" "I" ∈ wsX2_add := List.mem_of_getElem? (i := 1) rfl
theorem m_X2_add_2 : Cond.fieldLink RX2 9 "WishPins$Readings" "pin" "[I" ∈ wsX2_add := List.mem_of_getElem? (i := 2) rfl
theorem m_X2_add_3 : Cond.fieldLink RX2 15 "WishPins$Readings" "wish" "[I" ∈ wsX2_add := List.mem_of_getElem? (i := 3) rfl
def F_X2_add (rc : Int32) (rp : Nat → Int32) (rw : Nat → Int32) (k : Int32) (v : Int32) : Int32 × Int32 × (Nat → Int32) × (Nat → Int32) :=
  (if rc < 0 then ((0 : Int32), rc, rp, rw) else (if rc < (8 : Int32) then ((1 : Int32), (rc + (1 : Int32)), (upd rp rc.toNatClampNeg k), (upd rw rc.toNatClampNeg v)) else ((0 : Int32), rc, rp, rw)))
set_option maxHeartbeats 4000000 in
set_option maxRecDepth 100000 in
theorem c_X2_add (l : Launch) (D : va_G) (cI cO : ClassId) (h2 : Nat) (e1 : Nat) (e2 : Nat) (rc : Int32) (rp : Nat → Int32) (rw : Nat → Int32) (k : Int32) (v : Int32) : zW l yX2_add wsX2_add ({ frames := 0, cells := 0, slots := 0, locals := 0 } : Room) D cI cO [.ref h2, .int k, .int v] [(h2, .inr (2, [.ref e1, .ref e2, .int rc])), (e1, .inl (cI, 8, .inl rp)), (e2, .inl (cI, 8, .inl rw))] [(h2, .inr (2, [.ref e1, .ref e2, .int ((F_X2_add rc rp rw k v).2.1)])), (e1, .inl (cI, 8, .inl ((F_X2_add rc rp rw k v).2.2.1))), (e2, .inl (cI, 8, .inl ((F_X2_add rc rp rw k v).2.2.2)))] (some (.int ((F_X2_add rc rp rw k v).1))) := by
  refine zW_of (nL := 3) (cc := cX2_add) (ret := some .boolean) (lv := [(0, .ref h2), (1, .int k), (2, .int v)]) (by decide +kernel) rfl (Nat.le_of_ble_eq_true rfl) rfl (fun p e s m args below meth c C hr hlk => ?_)
  have hf := F_X2_add.eq_1 rc rp rw k v
  refine z_aload_n C dX2_add_0 rfl 0 rfl ?_
  refine z_get (T := TX2) (v := .int rc) C i_X2_add_2 0 rfl rfl 2 (by decide) m_X2_add_1 rfl rfl dX2_add_1 ?_
  refine z_if_lt (tgt := 16) C dX2_add_4 (by decide) (fun c4 => ?_) (fun c4 => ?_)
  · rw [if_pos c4] at hf
    refine z_iconst (v := (0 : Int32)) C dX2_add_16 (by decide) ?_
    exact z_zretW C hr hlk rfl (by rw [hf]) (by rw [hf]) dX2_add_17
  · rw [if_neg c4] at hf
    refine z_aload_n C dX2_add_7 rfl 0 rfl ?_
    refine z_get (T := TX2) (v := .int rc) C i_X2_add_2 0 rfl rfl 2 (by decide) m_X2_add_1 rfl rfl dX2_add_8 ?_
    refine z_bipush (v := (8 : Int32)) C dX2_add_11 (by decide) ?_
    refine z_icmp_lt (tgt := 18) C dX2_add_13 (by decide) (fun c13 => ?_) (fun c13 => ?_)
    · rw [if_pos c13] at hf
      refine z_aload_n C dX2_add_18 rfl 0 rfl ?_
      refine z_get (T := TX2) (v := .ref e1) C i_X2_add_2 0 rfl rfl 0 (by decide) m_X2_add_2 rfl rfl dX2_add_19 ?_
      refine z_aload_n C dX2_add_22 rfl 0 rfl ?_
      refine z_get (T := TX2) (v := .int rc) C i_X2_add_2 0 rfl rfl 2 (by decide) m_X2_add_1 rfl rfl dX2_add_23 ?_
      refine z_iload_n C dX2_add_26 rfl 1 rfl ?_
      refine z_ast C [(h2, .inr (2, [.ref e1, .ref e2, .int rc])), (e1, .inl (cI, 8, .inl (upd rp rc.toNatClampNeg k))), (e2, .inl (cI, 8, .inl rw))] 1 rfl (z_in (N := 8) (by decide) c4 c13) dX2_add_27 rfl ?_
      refine z_aload_n C dX2_add_28 rfl 0 rfl ?_
      refine z_get (T := TX2) (v := .ref e2) C i_X2_add_2 0 rfl rfl 1 (by decide) m_X2_add_3 rfl rfl dX2_add_29 ?_
      refine z_aload_n C dX2_add_32 rfl 0 rfl ?_
      refine z_get (T := TX2) (v := .int rc) C i_X2_add_2 0 rfl rfl 2 (by decide) m_X2_add_1 rfl rfl dX2_add_33 ?_
      refine z_iload_n C dX2_add_36 rfl 2 rfl ?_
      refine z_ast C [(h2, .inr (2, [.ref e1, .ref e2, .int rc])), (e1, .inl (cI, 8, .inl (upd rp rc.toNatClampNeg k))), (e2, .inl (cI, 8, .inl (upd rw rc.toNatClampNeg v)))] 2 rfl (z_in (N := 8) (by decide) c4 c13) dX2_add_37 rfl ?_
      refine z_aload_n C dX2_add_38 rfl 0 rfl ?_
      refine z_dup C dX2_add_39 rfl ?_
      refine z_get (T := TX2) (v := .int rc) C i_X2_add_2 0 rfl rfl 2 (by decide) m_X2_add_1 rfl rfl dX2_add_40 ?_
      refine z_iconst (v := (1 : Int32)) C dX2_add_43 (by decide) ?_
      refine z_iadd C dX2_add_44 ?_
      refine z_put (T := TX2) (ty := .int) C [(h2, .inr (2, [.ref e1, .ref e2, .int (rc + (1 : Int32))])), (e1, .inl (cI, 8, .inl (upd rp rc.toNatClampNeg k))), (e2, .inl (cI, 8, .inl (upd rw rc.toNatClampNeg v)))] i_X2_add_2 tyX2 tyX2_ok nmX2 0 rfl rfl 2 (by decide) m_X2_add_1 rfl rfl (by decide +kernel) rfl rfl (Nat.le_of_ble_eq_true rfl) dX2_add_45 rfl ?_
      refine z_iconst (v := (1 : Int32)) C dX2_add_48 (by decide) ?_
      exact z_zretW C hr hlk rfl (by rw [hf]) (by rw [hf]) dX2_add_49
    · rw [if_neg c13] at hf
      refine z_iconst (v := (0 : Int32)) C dX2_add_16 (by decide) ?_
      exact z_zretW C hr hlk rfl (by rw [hf]) (by rw [hf]) dX2_add_17
-- X2_areSoWith
theorem i_X2_areSoWith_2 : ∀ w ∈ u_ws RX2 TX2 3, w ∈ wsX2_areSoWith := by decide +kernel
theorem m_X2_areSoWith_1 : Cond.fieldLink RX2 18 "WishPins$Readings" "count" "I" ∈ wsX2_areSoWith := List.mem_of_getElem? (i := 1) rfl
theorem m_X2_areSoWith_2 : Cond.fieldLink RX2 9 "WishPins$Readings" "pin" "[I" ∈ wsX2_areSoWith := List.mem_of_getElem? (i := 2) rfl
theorem i_X2_areSoWith_4 : ∀ w ∈ u_ws RX4 TX4 7, w ∈ wsX2_areSoWith := by decide +kernel
theorem m_X2_areSoWith_3 : Cond.fieldLink RX2 28 "WishPins$Well" "slope" "I" ∈ wsX2_areSoWith := List.mem_of_getElem? (i := 3) rfl
theorem m_X2_areSoWith_4 : Cond.fieldLink RX2 31 "WishPins$Well" "drift" "I" ∈ wsX2_areSoWith := List.mem_of_getElem? (i := 4) rfl
theorem m_X2_areSoWith_19 : Cond.initialized RX5 ∈ wsX2_areSoWith := List.mem_of_getElem? (i := 19) rfl
theorem m_X2_areSoWith_26 : Cond.static yX5_wishOf ∈ wsX2_areSoWith := List.mem_of_getElem? (i := 26) rfl
theorem m_X2_areSoWith_5 : Cond.fieldLink RX2 15 "WishPins$Readings" "wish" "[I" ∈ wsX2_areSoWith := List.mem_of_getElem? (i := 5) rfl
def F_X2_areSoWith_k3 (x4_3 : Int32) : Int32 :=
  (1 : Int32)
def F_X2_areSoWith_l3 (rc : Int32) (rp : Nat → Int32) (rw : Nat → Int32) (pn : Int32) (sl : Int32) (dr : Int32) (kd : Nat → Int32) (bd : Nat → Int32) (yr : Nat → Int32) (k : Int32) (t : Int32) (K_ : Int32 → Int32) : Nat → Int32 → Int32
  | 0, x4_3 => K_ x4_3
  | d3 + 1, x4_3 => (if rc ≤ x4_3 then (K_ x4_3) else (if (8 : Int32) ≤ x4_3 then (K_ x4_3) else (if (rp x4_3.toNatClampNeg) = k then (if (F_X5_wishOf sl t dr (F_X4_yearAt pn yr (rp x4_3.toNatClampNeg))) = (rw x4_3.toNatClampNeg) then (F_X2_areSoWith_l3 rc rp rw pn sl dr kd bd yr k t K_ d3 (x4_3 + (1 : Int32))) else (0 : Int32)) else (if (F_X5_wishOf sl (F_X4_turnAt pn kd bd (rp x4_3.toNatClampNeg)) dr (F_X4_yearAt pn yr (rp x4_3.toNatClampNeg))) = (rw x4_3.toNatClampNeg) then (F_X2_areSoWith_l3 rc rp rw pn sl dr kd bd yr k t K_ d3 (x4_3 + (1 : Int32))) else (0 : Int32)))))
def F_X2_areSoWith (rc : Int32) (rp : Nat → Int32) (rw : Nat → Int32) (pn : Int32) (sl : Int32) (dr : Int32) (kd : Nat → Int32) (bd : Nat → Int32) (yr : Nat → Int32) (k : Int32) (t : Int32) : Int32 :=
  (F_X2_areSoWith_l3 rc rp rw pn sl dr kd bd yr k t F_X2_areSoWith_k3 9 (0 : Int32))
set_option maxHeartbeats 4000000 in
set_option maxRecDepth 100000 in
theorem c_X2_areSoWith (l : Launch) (D : va_G) (cI cO : ClassId) (h2 : Nat) (e1 : Nat) (e2 : Nat) (rc : Int32) (rp : Nat → Int32) (rw : Nat → Int32) (h4 : Nat) (a1 : Nat) (a2 : Nat) (a3 : Nat) (pn : Int32) (sl : Int32) (dr : Int32) (nw : Int32) (kd : Nat → Int32) (bd : Nat → Int32) (yr : Nat → Int32) (k : Int32) (t : Int32) : zR l yX2_areSoWith wsX2_areSoWith ({ frames := 2, cells := 0, slots := 0, locals := 42 } : Room) D cI cO [.ref h2, .ref h4, .int k, .int t] [(h2, .inr (2, [.ref e1, .ref e2, .int rc])), (e1, .inl (cI, 8, .inl rp)), (e2, .inl (cI, 8, .inl rw)), (h4, .inr (4, [.ref a1, .ref a2, .ref a3, .int pn, .int sl, .int dr, .int nw])), (a1, .inl (cI, 9, .inl kd)), (a2, .inl (cI, 9, .inl bd)), (a3, .inl (cI, 9, .inl yr))] (some (.int (F_X2_areSoWith rc rp rw pn sl dr kd bd yr k t))) := by
  refine zR_of (nL := 7) (cc := cX2_areSoWith) (ret := some .boolean) (lv := [(0, .ref h2), (1, .ref h4), (2, .int k), (3, .int t)]) (by decide +kernel) rfl (Nat.le_of_ble_eq_true rfl) rfl (fun p e s m args below meth c C hr hlk => ?_)
  have hf := F_X2_areSoWith.eq_1 rc rp rw pn sl dr kd bd yr k t
  refine z_iconst (v := (0 : Int32)) C dX2_areSoWith_0 (by decide) ?_
  refine z_istore C [(0, .ref h2), (1, .ref h4), (2, .int k), (3, .int t), (4, .int (0 : Int32))] dX2_areSoWith_1 (by decide) [1, 2, 3, 4, 0] rfl ?_
  have X3 : ∀ (x4_3 : Int32), F_X2_areSoWith rc rp rw pn sl dr kd bd yr k t = F_X2_areSoWith_k3 x4_3 → zG p l e ({ frames := 2, cells := 0, slots := 0, locals := 42 } : Room) s m args below meth c D (fun _ => True) (zXr s) 7 0 0 (MQ below (zQr (some (.int (F_X2_areSoWith rc rp rw pn sl dr kd bd yr k t)))) args s 0 0 (fun _ => False)) 83 [(0, .ref h2), (1, .ref h4), (2, .int k), (3, .int t), (4, .int x4_3)] [] [(h2, .inr (2, [.ref e1, .ref e2, .int rc])), (e1, .inl (cI, 8, .inl rp)), (e2, .inl (cI, 8, .inl rw)), (h4, .inr (4, [.ref a1, .ref a2, .ref a3, .int pn, .int sl, .int dr, .int nw])), (a1, .inl (cI, 9, .inl kd)), (a2, .inl (cI, 9, .inl bd)), (a3, .inl (cI, 9, .inl yr))] := by
    intro x4_3 hf
    rw [F_X2_areSoWith_k3] at hf
    refine z_iconst (v := (1 : Int32)) C dX2_areSoWith_83 (by decide) ?_
    exact z_zretR C hr hlk rfl (by rw [hf]) dX2_areSoWith_84
  have L3 : ∀ (d3 : Nat) (j : Nat) (x4_3 : Int32) (e4 : x4_3 = nI j) (hj : j ≤ 8) (hd : 8 < j + d3), F_X2_areSoWith rc rp rw pn sl dr kd bd yr k t = F_X2_areSoWith_l3 rc rp rw pn sl dr kd bd yr k t F_X2_areSoWith_k3 d3 x4_3 → zG p l e ({ frames := 2, cells := 0, slots := 0, locals := 42 } : Room) s m args below meth c D (fun _ => True) (zXr s) 7 0 0 (MQ below (zQr (some (.int (F_X2_areSoWith rc rp rw pn sl dr kd bd yr k t)))) args s 0 0 (fun _ => False)) 3 [(0, .ref h2), (1, .ref h4), (2, .int k), (3, .int t), (4, .int x4_3)] [] [(h2, .inr (2, [.ref e1, .ref e2, .int rc])), (e1, .inl (cI, 8, .inl rp)), (e2, .inl (cI, 8, .inl rw)), (h4, .inr (4, [.ref a1, .ref a2, .ref a3, .int pn, .int sl, .int dr, .int nw])), (a1, .inl (cI, 9, .inl kd)), (a2, .inl (cI, 9, .inl bd)), (a3, .inl (cI, 9, .inl yr))] := by
    intro d3
    induction d3 with
    | zero =>
      intro j x4_3 e4 hj hd hf
      exfalso; omega
    | succ d3 ih3 =>
      intro j x4_3 e4 hj hd hf
      rw [F_X2_areSoWith_l3] at hf
      refine z_iload C dX2_areSoWith_3 4 rfl ?_
      refine z_aload_n C dX2_areSoWith_5 rfl 0 rfl ?_
      refine z_get (T := TX2) (v := .int rc) C i_X2_areSoWith_2 0 rfl rfl 2 (by decide) m_X2_areSoWith_1 rfl rfl dX2_areSoWith_6 ?_
      refine z_icmp_ge (tgt := 83) C dX2_areSoWith_9 (by decide) (fun c9 => ?_) (fun c9 => ?_)
      · rw [if_pos c9] at hf
        exact X3 x4_3  hf
      · rw [if_neg c9] at hf
        refine z_iload C dX2_areSoWith_12 4 rfl ?_
        refine z_bipush (v := (8 : Int32)) C dX2_areSoWith_14 (by decide) ?_
        refine z_icmp_ge (tgt := 83) C dX2_areSoWith_16 (by decide) (fun c16 => ?_) (fun c16 => ?_)
        · rw [if_pos c16] at hf
          exact X3 x4_3  hf
        · rw [if_neg c16] at hf
          refine z_aload_n C dX2_areSoWith_19 rfl 0 rfl ?_
          refine z_get (T := TX2) (v := .ref e1) C i_X2_areSoWith_2 0 rfl rfl 0 (by decide) m_X2_areSoWith_2 rfl rfl dX2_areSoWith_20 ?_
          refine z_iload C dX2_areSoWith_23 4 rfl ?_
          refine z_ald C 1 rfl (z_ixN e4 (z_jlt e4 (by omega) (by decide) c16) (by decide)) dX2_areSoWith_25 ?_
          refine z_istore C [(0, .ref h2), (1, .ref h4), (2, .int k), (3, .int t), (4, .int x4_3), (5, .int (rp x4_3.toNatClampNeg))] dX2_areSoWith_26 (by decide) [1, 2, 3, 4, 5, 0] rfl ?_
          refine z_iload C dX2_areSoWith_28 5 rfl ?_
          refine z_iload_n C dX2_areSoWith_30 rfl 2 rfl ?_
          refine z_icmp_ne (tgt := 38) C dX2_areSoWith_31 (by decide) (fun c31 => ?_) (fun c31 => ?_)
          · rw [if_neg c31] at hf
            refine z_aload_n C dX2_areSoWith_38 rfl 1 rfl ?_
            refine z_iload C dX2_areSoWith_39 5 rfl ?_
            refine z_cVR (As := [.int (rp x4_3.toNatClampNeg)]) C (c_X4_turnAt l D cI cO h4 a1 a2 a3 pn sl dr nw kd bd (rp x4_3.toNatClampNeg)) (cwV 1 C.2.2.2.2.1 gX2_areSoWith_X4_turnAt rfl rfl rfl hdV_X4_turnAt ⟨Nat.le_of_ble_eq_true rfl, Nat.le_of_ble_eq_true rfl⟩) [3, 4, 5] rfl rfl 3 rfl rfl rfl _ rfl (Nat.le_of_ble_eq_true rfl) ⟨Nat.zero_le _, Nat.zero_le _⟩ dX2_areSoWith_41 ?_
            refine z_istore C [(0, .ref h2), (1, .ref h4), (2, .int k), (3, .int t), (4, .int x4_3), (5, .int (rp x4_3.toNatClampNeg)), (6, .int (F_X4_turnAt pn kd bd (rp x4_3.toNatClampNeg)))] dX2_areSoWith_44 (by decide) [1, 2, 3, 4, 5, 6, 0] rfl ?_
            refine z_aload_n C dX2_areSoWith_46 rfl 1 rfl ?_
            refine z_get (T := TX4) (v := .int sl) C i_X2_areSoWith_4 3 rfl rfl 4 (by decide) m_X2_areSoWith_3 rfl rfl dX2_areSoWith_47 ?_
            refine z_iload C dX2_areSoWith_50 6 rfl ?_
            refine z_aload_n C dX2_areSoWith_52 rfl 1 rfl ?_
            refine z_get (T := TX4) (v := .int dr) C i_X2_areSoWith_4 3 rfl rfl 5 (by decide) m_X2_areSoWith_4 rfl rfl dX2_areSoWith_53 ?_
            refine z_aload_n C dX2_areSoWith_56 rfl 1 rfl ?_
            refine z_iload C dX2_areSoWith_57 5 rfl ?_
            refine z_cVR (As := [.int (rp x4_3.toNatClampNeg)]) C (c_X4_yearAt l D cI cO h4 a1 a2 a3 pn sl dr nw yr (rp x4_3.toNatClampNeg)) (cwV 1 C.2.2.2.2.1 gX2_areSoWith_X4_yearAt rfl rfl rfl hdV_X4_yearAt ⟨Nat.le_of_ble_eq_true rfl, Nat.le_of_ble_eq_true rfl⟩) [3, 6] rfl rfl 3 rfl rfl rfl _ rfl (Nat.le_of_ble_eq_true rfl) ⟨Nat.zero_le _, Nat.zero_le _⟩ dX2_areSoWith_59 ?_
            refine z_cNR (As := [.int sl, .int (F_X4_turnAt pn kd bd (rp x4_3.toNatClampNeg)), .int dr, .int (F_X4_yearAt pn yr (rp x4_3.toNatClampNeg))]) C (c_X5_wishOf l D cI cO sl (F_X4_turnAt pn kd bd (rp x4_3.toNatClampNeg)) dr (F_X4_yearAt pn yr (rp x4_3.toNatClampNeg))) ⟨va_cnB 4 C.2.2.2.2.1 gX2_areSoWith_X5_wishOf_n37 rfl rfl rfl (zN_6 C.2.2.2.2.2.2) (C.2.2.2.2.1 _ m_X2_areSoWith_19) hdS_X5_wishOf ⟨Nat.le_of_ble_eq_true rfl, Nat.le_of_ble_eq_true rfl⟩, C.2.2.2.2.1 _ m_X2_areSoWith_26, trivial⟩ [] rfl rfl rfl _ rfl (Nat.le_of_ble_eq_true rfl) ⟨Nat.zero_le _, Nat.zero_le _⟩ dX2_areSoWith_62 ?_
            refine z_aload_n C dX2_areSoWith_65 rfl 0 rfl ?_
            refine z_get (T := TX2) (v := .ref e2) C i_X2_areSoWith_2 0 rfl rfl 1 (by decide) m_X2_areSoWith_5 rfl rfl dX2_areSoWith_66 ?_
            refine z_iload C dX2_areSoWith_69 4 rfl ?_
            refine z_ald C 2 rfl (z_ixN e4 (z_jlt e4 (by omega) (by decide) c16) (by decide)) dX2_areSoWith_71 ?_
            refine z_icmp_eq (tgt := 77) C dX2_areSoWith_72 (by decide) (fun c72 => ?_) (fun c72 => ?_)
            · rw [if_pos c72] at hf
              refine z_iinc (v := (x4_3 + (1 : Int32))) C [(0, .ref h2), (1, .ref h4), (2, .int k), (3, .int t), (4, .int (x4_3 + (1 : Int32))), (5, .int (rp x4_3.toNatClampNeg)), (6, .int (F_X4_turnAt pn kd bd (rp x4_3.toNatClampNeg)))] dX2_areSoWith_77 4 rfl (by rfl) (by decide) [1, 2, 3, 4, 0, 5, 6] rfl ?_
              refine z_goto (tgt := 3) C dX2_areSoWith_80 (by decide) ?_
              refine z_ls [(0, .ref h2), (1, .ref h4), (2, .int k), (3, .int t), (4, .int (x4_3 + (1 : Int32)))] [0, 1, 2, 3, 4] rfl ?_
              exact ih3 (j + 1) (x4_3 + (1 : Int32)) (by rw [e4]; exact nI_1 j) (by have := z_jlt (n := 8) e4 (by omega) (by decide) c16; omega) (by omega) hf
            · rw [if_neg c72] at hf
              refine z_iconst (v := (0 : Int32)) C dX2_areSoWith_75 (by decide) ?_
              exact z_zretR C hr hlk rfl (by rw [hf]) dX2_areSoWith_76
          · rw [if_pos c31] at hf
            refine z_iload_n C dX2_areSoWith_34 rfl 3 rfl ?_
            refine z_goto (tgt := 44) C dX2_areSoWith_35 (by decide) ?_
            refine z_istore C [(0, .ref h2), (1, .ref h4), (2, .int k), (3, .int t), (4, .int x4_3), (5, .int (rp x4_3.toNatClampNeg)), (6, .int t)] dX2_areSoWith_44 (by decide) [1, 2, 3, 4, 5, 6, 0] rfl ?_
            refine z_aload_n C dX2_areSoWith_46 rfl 1 rfl ?_
            refine z_get (T := TX4) (v := .int sl) C i_X2_areSoWith_4 3 rfl rfl 4 (by decide) m_X2_areSoWith_3 rfl rfl dX2_areSoWith_47 ?_
            refine z_iload C dX2_areSoWith_50 6 rfl ?_
            refine z_aload_n C dX2_areSoWith_52 rfl 1 rfl ?_
            refine z_get (T := TX4) (v := .int dr) C i_X2_areSoWith_4 3 rfl rfl 5 (by decide) m_X2_areSoWith_4 rfl rfl dX2_areSoWith_53 ?_
            refine z_aload_n C dX2_areSoWith_56 rfl 1 rfl ?_
            refine z_iload C dX2_areSoWith_57 5 rfl ?_
            refine z_cVR (As := [.int (rp x4_3.toNatClampNeg)]) C (c_X4_yearAt l D cI cO h4 a1 a2 a3 pn sl dr nw yr (rp x4_3.toNatClampNeg)) (cwV 1 C.2.2.2.2.1 gX2_areSoWith_X4_yearAt rfl rfl rfl hdV_X4_yearAt ⟨Nat.le_of_ble_eq_true rfl, Nat.le_of_ble_eq_true rfl⟩) [3, 6] rfl rfl 3 rfl rfl rfl _ rfl (Nat.le_of_ble_eq_true rfl) ⟨Nat.zero_le _, Nat.zero_le _⟩ dX2_areSoWith_59 ?_
            refine z_cNR (As := [.int sl, .int t, .int dr, .int (F_X4_yearAt pn yr (rp x4_3.toNatClampNeg))]) C (c_X5_wishOf l D cI cO sl t dr (F_X4_yearAt pn yr (rp x4_3.toNatClampNeg))) ⟨va_cnB 4 C.2.2.2.2.1 gX2_areSoWith_X5_wishOf_n37 rfl rfl rfl (zN_6 C.2.2.2.2.2.2) (C.2.2.2.2.1 _ m_X2_areSoWith_19) hdS_X5_wishOf ⟨Nat.le_of_ble_eq_true rfl, Nat.le_of_ble_eq_true rfl⟩, C.2.2.2.2.1 _ m_X2_areSoWith_26, trivial⟩ [] rfl rfl rfl _ rfl (Nat.le_of_ble_eq_true rfl) ⟨Nat.zero_le _, Nat.zero_le _⟩ dX2_areSoWith_62 ?_
            refine z_aload_n C dX2_areSoWith_65 rfl 0 rfl ?_
            refine z_get (T := TX2) (v := .ref e2) C i_X2_areSoWith_2 0 rfl rfl 1 (by decide) m_X2_areSoWith_5 rfl rfl dX2_areSoWith_66 ?_
            refine z_iload C dX2_areSoWith_69 4 rfl ?_
            refine z_ald C 2 rfl (z_ixN e4 (z_jlt e4 (by omega) (by decide) c16) (by decide)) dX2_areSoWith_71 ?_
            refine z_icmp_eq (tgt := 77) C dX2_areSoWith_72 (by decide) (fun c72 => ?_) (fun c72 => ?_)
            · rw [if_pos c72] at hf
              refine z_iinc (v := (x4_3 + (1 : Int32))) C [(0, .ref h2), (1, .ref h4), (2, .int k), (3, .int t), (4, .int (x4_3 + (1 : Int32))), (5, .int (rp x4_3.toNatClampNeg)), (6, .int t)] dX2_areSoWith_77 4 rfl (by rfl) (by decide) [1, 2, 3, 4, 0, 5, 6] rfl ?_
              refine z_goto (tgt := 3) C dX2_areSoWith_80 (by decide) ?_
              refine z_ls [(0, .ref h2), (1, .ref h4), (2, .int k), (3, .int t), (4, .int (x4_3 + (1 : Int32)))] [0, 1, 2, 3, 4] rfl ?_
              exact ih3 (j + 1) (x4_3 + (1 : Int32)) (by rw [e4]; exact nI_1 j) (by have := z_jlt (n := 8) e4 (by omega) (by decide) c16; omega) (by omega) hf
            · rw [if_neg c72] at hf
              refine z_iconst (v := (0 : Int32)) C dX2_areSoWith_75 (by decide) ?_
              exact z_zretR C hr hlk rfl (by rw [hf]) dX2_areSoWith_76
  exact L3 9 0 (0 : Int32) nI_0.symm (Nat.zero_le _) (by omega) hf
-- X2_areSoByKey
theorem i_X2_areSoByKey_2 : ∀ w ∈ u_ws RX2 TX2 3, w ∈ wsX2_areSoByKey := by decide +kernel
theorem m_X2_areSoByKey_1 : Cond.fieldLink RX2 18 "WishPins$Readings" "count" "I" ∈ wsX2_areSoByKey := List.mem_of_getElem? (i := 1) rfl
theorem m_X2_areSoByKey_2 : Cond.fieldLink RX2 9 "WishPins$Readings" "pin" "[I" ∈ wsX2_areSoByKey := List.mem_of_getElem? (i := 2) rfl
theorem m_X2_areSoByKey_17 : Cond.initialized RX5 ∈ wsX2_areSoByKey := List.mem_of_getElem? (i := 17) rfl
theorem m_X2_areSoByKey_24 : Cond.static yX5_wishOf ∈ wsX2_areSoByKey := List.mem_of_getElem? (i := 24) rfl
theorem m_X2_areSoByKey_3 : Cond.fieldLink RX2 15 "WishPins$Readings" "wish" "[I" ∈ wsX2_areSoByKey := List.mem_of_getElem? (i := 3) rfl
def F_X2_areSoByKey_k3 (x4_3 : Int32) : Int32 :=
  (1 : Int32)
def F_X2_areSoByKey_l3 (rc : Int32) (rp : Nat → Int32) (rw : Nat → Int32) (pn : Int32) (kd : Nat → Int32) (bd : Nat → Int32) (yr : Nat → Int32) (a : Int32) (b : Int32) (K_ : Int32 → Int32) : Nat → Int32 → Int32
  | 0, x4_3 => K_ x4_3
  | d3 + 1, x4_3 => (if rc ≤ x4_3 then (K_ x4_3) else (if (8 : Int32) ≤ x4_3 then (K_ x4_3) else (if (F_X5_wishOf a (F_X4_turnAt pn kd bd (rp x4_3.toNatClampNeg)) b (F_X4_yearAt pn yr (rp x4_3.toNatClampNeg))) = (rw x4_3.toNatClampNeg) then (F_X2_areSoByKey_l3 rc rp rw pn kd bd yr a b K_ d3 (x4_3 + (1 : Int32))) else (0 : Int32))))
def F_X2_areSoByKey (rc : Int32) (rp : Nat → Int32) (rw : Nat → Int32) (pn : Int32) (kd : Nat → Int32) (bd : Nat → Int32) (yr : Nat → Int32) (a : Int32) (b : Int32) : Int32 :=
  (F_X2_areSoByKey_l3 rc rp rw pn kd bd yr a b F_X2_areSoByKey_k3 9 (0 : Int32))
set_option maxHeartbeats 4000000 in
set_option maxRecDepth 100000 in
theorem c_X2_areSoByKey (l : Launch) (D : va_G) (cI cO : ClassId) (h2 : Nat) (e1 : Nat) (e2 : Nat) (rc : Int32) (rp : Nat → Int32) (rw : Nat → Int32) (h4 : Nat) (a1 : Nat) (a2 : Nat) (a3 : Nat) (pn : Int32) (sl : Int32) (dr : Int32) (nw : Int32) (kd : Nat → Int32) (bd : Nat → Int32) (yr : Nat → Int32) (a : Int32) (b : Int32) : zR l yX2_areSoByKey wsX2_areSoByKey ({ frames := 2, cells := 0, slots := 0, locals := 42 } : Room) D cI cO [.ref h2, .ref h4, .int a, .int b] [(h2, .inr (2, [.ref e1, .ref e2, .int rc])), (e1, .inl (cI, 8, .inl rp)), (e2, .inl (cI, 8, .inl rw)), (h4, .inr (4, [.ref a1, .ref a2, .ref a3, .int pn, .int sl, .int dr, .int nw])), (a1, .inl (cI, 9, .inl kd)), (a2, .inl (cI, 9, .inl bd)), (a3, .inl (cI, 9, .inl yr))] (some (.int (F_X2_areSoByKey rc rp rw pn kd bd yr a b))) := by
  refine zR_of (nL := 6) (cc := cX2_areSoByKey) (ret := some .boolean) (lv := [(0, .ref h2), (1, .ref h4), (2, .int a), (3, .int b)]) (by decide +kernel) rfl (Nat.le_of_ble_eq_true rfl) rfl (fun p e s m args below meth c C hr hlk => ?_)
  have hf := F_X2_areSoByKey.eq_1 rc rp rw pn kd bd yr a b
  refine z_iconst (v := (0 : Int32)) C dX2_areSoByKey_0 (by decide) ?_
  refine z_istore C [(0, .ref h2), (1, .ref h4), (2, .int a), (3, .int b), (4, .int (0 : Int32))] dX2_areSoByKey_1 (by decide) [1, 2, 3, 4, 0] rfl ?_
  have X3 : ∀ (x4_3 : Int32), F_X2_areSoByKey rc rp rw pn kd bd yr a b = F_X2_areSoByKey_k3 x4_3 → zG p l e ({ frames := 2, cells := 0, slots := 0, locals := 42 } : Room) s m args below meth c D (fun _ => True) (zXr s) 6 0 0 (MQ below (zQr (some (.int (F_X2_areSoByKey rc rp rw pn kd bd yr a b)))) args s 0 0 (fun _ => False)) 63 [(0, .ref h2), (1, .ref h4), (2, .int a), (3, .int b), (4, .int x4_3)] [] [(h2, .inr (2, [.ref e1, .ref e2, .int rc])), (e1, .inl (cI, 8, .inl rp)), (e2, .inl (cI, 8, .inl rw)), (h4, .inr (4, [.ref a1, .ref a2, .ref a3, .int pn, .int sl, .int dr, .int nw])), (a1, .inl (cI, 9, .inl kd)), (a2, .inl (cI, 9, .inl bd)), (a3, .inl (cI, 9, .inl yr))] := by
    intro x4_3 hf
    rw [F_X2_areSoByKey_k3] at hf
    refine z_iconst (v := (1 : Int32)) C dX2_areSoByKey_63 (by decide) ?_
    exact z_zretR C hr hlk rfl (by rw [hf]) dX2_areSoByKey_64
  have L3 : ∀ (d3 : Nat) (j : Nat) (x4_3 : Int32) (e4 : x4_3 = nI j) (hj : j ≤ 8) (hd : 8 < j + d3), F_X2_areSoByKey rc rp rw pn kd bd yr a b = F_X2_areSoByKey_l3 rc rp rw pn kd bd yr a b F_X2_areSoByKey_k3 d3 x4_3 → zG p l e ({ frames := 2, cells := 0, slots := 0, locals := 42 } : Room) s m args below meth c D (fun _ => True) (zXr s) 6 0 0 (MQ below (zQr (some (.int (F_X2_areSoByKey rc rp rw pn kd bd yr a b)))) args s 0 0 (fun _ => False)) 3 [(0, .ref h2), (1, .ref h4), (2, .int a), (3, .int b), (4, .int x4_3)] [] [(h2, .inr (2, [.ref e1, .ref e2, .int rc])), (e1, .inl (cI, 8, .inl rp)), (e2, .inl (cI, 8, .inl rw)), (h4, .inr (4, [.ref a1, .ref a2, .ref a3, .int pn, .int sl, .int dr, .int nw])), (a1, .inl (cI, 9, .inl kd)), (a2, .inl (cI, 9, .inl bd)), (a3, .inl (cI, 9, .inl yr))] := by
    intro d3
    induction d3 with
    | zero =>
      intro j x4_3 e4 hj hd hf
      exfalso; omega
    | succ d3 ih3 =>
      intro j x4_3 e4 hj hd hf
      rw [F_X2_areSoByKey_l3] at hf
      refine z_iload C dX2_areSoByKey_3 4 rfl ?_
      refine z_aload_n C dX2_areSoByKey_5 rfl 0 rfl ?_
      refine z_get (T := TX2) (v := .int rc) C i_X2_areSoByKey_2 0 rfl rfl 2 (by decide) m_X2_areSoByKey_1 rfl rfl dX2_areSoByKey_6 ?_
      refine z_icmp_ge (tgt := 63) C dX2_areSoByKey_9 (by decide) (fun c9 => ?_) (fun c9 => ?_)
      · rw [if_pos c9] at hf
        exact X3 x4_3  hf
      · rw [if_neg c9] at hf
        refine z_iload C dX2_areSoByKey_12 4 rfl ?_
        refine z_bipush (v := (8 : Int32)) C dX2_areSoByKey_14 (by decide) ?_
        refine z_icmp_ge (tgt := 63) C dX2_areSoByKey_16 (by decide) (fun c16 => ?_) (fun c16 => ?_)
        · rw [if_pos c16] at hf
          exact X3 x4_3  hf
        · rw [if_neg c16] at hf
          refine z_aload_n C dX2_areSoByKey_19 rfl 0 rfl ?_
          refine z_get (T := TX2) (v := .ref e1) C i_X2_areSoByKey_2 0 rfl rfl 0 (by decide) m_X2_areSoByKey_2 rfl rfl dX2_areSoByKey_20 ?_
          refine z_iload C dX2_areSoByKey_23 4 rfl ?_
          refine z_ald C 1 rfl (z_ixN e4 (z_jlt e4 (by omega) (by decide) c16) (by decide)) dX2_areSoByKey_25 ?_
          refine z_istore C [(0, .ref h2), (1, .ref h4), (2, .int a), (3, .int b), (4, .int x4_3), (5, .int (rp x4_3.toNatClampNeg))] dX2_areSoByKey_26 (by decide) [1, 2, 3, 4, 5, 0] rfl ?_
          refine z_iload_n C dX2_areSoByKey_28 rfl 2 rfl ?_
          refine z_aload_n C dX2_areSoByKey_29 rfl 1 rfl ?_
          refine z_iload C dX2_areSoByKey_30 5 rfl ?_
          refine z_cVR (As := [.int (rp x4_3.toNatClampNeg)]) C (c_X4_turnAt l D cI cO h4 a1 a2 a3 pn sl dr nw kd bd (rp x4_3.toNatClampNeg)) (cwV 1 C.2.2.2.2.1 gX2_areSoByKey_X4_turnAt rfl rfl rfl hdV_X4_turnAt ⟨Nat.le_of_ble_eq_true rfl, Nat.le_of_ble_eq_true rfl⟩) [3, 4, 5] rfl rfl 3 rfl rfl rfl _ rfl (Nat.le_of_ble_eq_true rfl) ⟨Nat.zero_le _, Nat.zero_le _⟩ dX2_areSoByKey_32 ?_
          refine z_iload_n C dX2_areSoByKey_35 rfl 3 rfl ?_
          refine z_aload_n C dX2_areSoByKey_36 rfl 1 rfl ?_
          refine z_iload C dX2_areSoByKey_37 5 rfl ?_
          refine z_cVR (As := [.int (rp x4_3.toNatClampNeg)]) C (c_X4_yearAt l D cI cO h4 a1 a2 a3 pn sl dr nw yr (rp x4_3.toNatClampNeg)) (cwV 1 C.2.2.2.2.1 gX2_areSoByKey_X4_yearAt rfl rfl rfl hdV_X4_yearAt ⟨Nat.le_of_ble_eq_true rfl, Nat.le_of_ble_eq_true rfl⟩) [3, 6] rfl rfl 3 rfl rfl rfl _ rfl (Nat.le_of_ble_eq_true rfl) ⟨Nat.zero_le _, Nat.zero_le _⟩ dX2_areSoByKey_39 ?_
          refine z_cNR (As := [.int a, .int (F_X4_turnAt pn kd bd (rp x4_3.toNatClampNeg)), .int b, .int (F_X4_yearAt pn yr (rp x4_3.toNatClampNeg))]) C (c_X5_wishOf l D cI cO a (F_X4_turnAt pn kd bd (rp x4_3.toNatClampNeg)) b (F_X4_yearAt pn yr (rp x4_3.toNatClampNeg))) ⟨va_cnB 4 C.2.2.2.2.1 gX2_areSoByKey_X5_wishOf_n37 rfl rfl rfl (zN_6 C.2.2.2.2.2.2) (C.2.2.2.2.1 _ m_X2_areSoByKey_17) hdS_X5_wishOf ⟨Nat.le_of_ble_eq_true rfl, Nat.le_of_ble_eq_true rfl⟩, C.2.2.2.2.1 _ m_X2_areSoByKey_24, trivial⟩ [] rfl rfl rfl _ rfl (Nat.le_of_ble_eq_true rfl) ⟨Nat.zero_le _, Nat.zero_le _⟩ dX2_areSoByKey_42 ?_
          refine z_aload_n C dX2_areSoByKey_45 rfl 0 rfl ?_
          refine z_get (T := TX2) (v := .ref e2) C i_X2_areSoByKey_2 0 rfl rfl 1 (by decide) m_X2_areSoByKey_3 rfl rfl dX2_areSoByKey_46 ?_
          refine z_iload C dX2_areSoByKey_49 4 rfl ?_
          refine z_ald C 2 rfl (z_ixN e4 (z_jlt e4 (by omega) (by decide) c16) (by decide)) dX2_areSoByKey_51 ?_
          refine z_icmp_eq (tgt := 57) C dX2_areSoByKey_52 (by decide) (fun c52 => ?_) (fun c52 => ?_)
          · rw [if_pos c52] at hf
            refine z_iinc (v := (x4_3 + (1 : Int32))) C [(0, .ref h2), (1, .ref h4), (2, .int a), (3, .int b), (4, .int (x4_3 + (1 : Int32))), (5, .int (rp x4_3.toNatClampNeg))] dX2_areSoByKey_57 4 rfl (by rfl) (by decide) [1, 2, 3, 4, 0, 5] rfl ?_
            refine z_goto (tgt := 3) C dX2_areSoByKey_60 (by decide) ?_
            refine z_ls [(0, .ref h2), (1, .ref h4), (2, .int a), (3, .int b), (4, .int (x4_3 + (1 : Int32)))] [0, 1, 2, 3, 4] rfl ?_
            exact ih3 (j + 1) (x4_3 + (1 : Int32)) (by rw [e4]; exact nI_1 j) (by have := z_jlt (n := 8) e4 (by omega) (by decide) c16; omega) (by omega) hf
          · rw [if_neg c52] at hf
            refine z_iconst (v := (0 : Int32)) C dX2_areSoByKey_55 (by decide) ?_
            exact z_zretR C hr hlk rfl (by rw [hf]) dX2_areSoByKey_56
  exact L3 9 0 (0 : Int32) nI_0.symm (Nat.zero_le _) (by omega) hf
end
