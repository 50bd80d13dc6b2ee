section
-- ===== PART A: goes FIRST, ahead of the names: the tables' words, and 'selects' of the private methods out of them =====
/-- a private method of a class that the tables say can be made, by its rows of tables_1 -/
def lw_okq (q : MethodName × Nat) : Prop := (q.1.cls ≠ "java/lang/invoke/MethodHandle" ∧ q.1.cls ≠ "java/lang/invoke/VarHandle") ∧ Cond.instantiable q.1.cls q.2 ∈ tables_1 ∧ Cond.privateMethod q.1 ∈ tables_1 ∧ Cond.instanceMethod q.1 ∈ tables_1
theorem lw_p0 : lw_okq (⟨"OtherNames$Rows", "hasCell", "(II)Z"⟩, 4) := ⟨⟨by decide +kernel, by decide +kernel⟩, List.mem_of_getElem? (i := 24) (by decide +kernel), List.mem_of_getElem? (i := 122) (by decide +kernel), List.mem_of_getElem? (i := 123) (by decide +kernel)⟩
theorem lw_p1 : lw_okq (⟨"OtherNames$People", "isHead", "(I)Z"⟩, 1) := ⟨⟨by decide +kernel, by decide +kernel⟩, List.mem_of_getElem? (i := 18) (by decide +kernel), List.mem_of_getElem? (i := 170) (by decide +kernel), List.mem_of_getElem? (i := 171) (by decide +kernel)⟩
theorem lw_p2 : lw_okq (⟨"OtherNames$People", "strikeOutAllUnder", "(I)V"⟩, 1) := ⟨⟨by decide +kernel, by decide +kernel⟩, List.mem_of_getElem? (i := 18) (by decide +kernel), List.mem_of_getElem? (i := 186) (by decide +kernel), List.mem_of_getElem? (i := 187) (by decide +kernel)⟩
theorem lw_p3 : lw_okq (⟨"OtherNames", "nameIn", "(II)I"⟩, 6) := ⟨⟨by decide +kernel, by decide +kernel⟩, List.mem_of_getElem? (i := 10) (by decide +kernel), List.mem_of_getElem? (i := 221) (by decide +kernel), List.mem_of_getElem? (i := 222) (by decide +kernel)⟩
theorem lw_p4 : lw_okq (⟨"OtherNames$Names", "countWith", "(II)I"⟩, 2) := ⟨⟨by decide +kernel, by decide +kernel⟩, List.mem_of_getElem? (i := 63) (by decide +kernel), List.mem_of_getElem? (i := 229) (by decide +kernel), List.mem_of_getElem? (i := 230) (by decide +kernel)⟩
theorem lw_p5 : lw_okq (⟨"OtherNames", "areTwoHouses", "(II)Z"⟩, 6) := ⟨⟨by decide +kernel, by decide +kernel⟩, List.mem_of_getElem? (i := 10) (by decide +kernel), List.mem_of_getElem? (i := 297) (by decide +kernel), List.mem_of_getElem? (i := 298) (by decide +kernel)⟩
theorem lw_p6 : lw_okq (⟨"OtherNames", "isBridged", "(III)Z"⟩, 6) := ⟨⟨by decide +kernel, by decide +kernel⟩, List.mem_of_getElem? (i := 10) (by decide +kernel), List.mem_of_getElem? (i := 307) (by decide +kernel), List.mem_of_getElem? (i := 308) (by decide +kernel)⟩
theorem lw_p7 : lw_okq (⟨"OtherNames", "crossWith", "(III)I"⟩, 6) := ⟨⟨by decide +kernel, by decide +kernel⟩, List.mem_of_getElem? (i := 10) (by decide +kernel), List.mem_of_getElem? (i := 324) (by decide +kernel), List.mem_of_getElem? (i := 325) (by decide +kernel)⟩
theorem lw_p8 : lw_okq (⟨"OtherNames", "enter", "(IIIII)V"⟩, 6) := ⟨⟨by decide +kernel, by decide +kernel⟩, List.mem_of_getElem? (i := 10) (by decide +kernel), List.mem_of_getElem? (i := 335) (by decide +kernel), List.mem_of_getElem? (i := 336) (by decide +kernel)⟩
theorem lw_p9 : lw_okq (⟨"OtherNames", "headBehind", "(II)I"⟩, 6) := ⟨⟨by decide +kernel, by decide +kernel⟩, List.mem_of_getElem? (i := 10) (by decide +kernel), List.mem_of_getElem? (i := 350) (by decide +kernel), List.mem_of_getElem? (i := 351) (by decide +kernel)⟩
theorem lw_p10 : lw_okq (⟨"OtherNames$People", "areAlike", "(III)Z"⟩, 1) := ⟨⟨by decide +kernel, by decide +kernel⟩, List.mem_of_getElem? (i := 18) (by decide +kernel), List.mem_of_getElem? (i := 386) (by decide +kernel), List.mem_of_getElem? (i := 387) (by decide +kernel)⟩
theorem lw_p11 : lw_okq (⟨"OtherNames", "isTooSmall", "(II)Z"⟩, 6) := ⟨⟨by decide +kernel, by decide +kernel⟩, List.mem_of_getElem? (i := 10) (by decide +kernel), List.mem_of_getElem? (i := 414) (by decide +kernel), List.mem_of_getElem? (i := 415) (by decide +kernel)⟩
theorem lw_p12 : lw_okq (⟨"OtherNames", "tellOfHouse", "(II)I"⟩, 6) := ⟨⟨by decide +kernel, by decide +kernel⟩, List.mem_of_getElem? (i := 10) (by decide +kernel), List.mem_of_getElem? (i := 462) (by decide +kernel), List.mem_of_getElem? (i := 463) (by decide +kernel)⟩
theorem lw_p13 : lw_okq (⟨"OtherNamesModel", "isPerson", "(I)Z"⟩, 26) := ⟨⟨by decide +kernel, by decide +kernel⟩, List.mem_of_getElem? (i := 466) (by decide +kernel), List.mem_of_getElem? (i := 563) (by decide +kernel), List.mem_of_getElem? (i := 564) (by decide +kernel)⟩
theorem lw_p14 : lw_okq (⟨"OtherNamesModel", "strikes", "(I)V"⟩, 26) := ⟨⟨by decide +kernel, by decide +kernel⟩, List.mem_of_getElem? (i := 466) (by decide +kernel), List.mem_of_getElem? (i := 574) (by decide +kernel), List.mem_of_getElem? (i := 575) (by decide +kernel)⟩
theorem lw_p15 : lw_okq (⟨"OtherNamesModel", "head", "(I)I"⟩, 26) := ⟨⟨by decide +kernel, by decide +kernel⟩, List.mem_of_getElem? (i := 466) (by decide +kernel), List.mem_of_getElem? (i := 578) (by decide +kernel), List.mem_of_getElem? (i := 579) (by decide +kernel)⟩
def lw_privs_1 : List (MethodName × Nat) := [(⟨"OtherNames$Rows", "hasCell", "(II)Z"⟩, 4), (⟨"OtherNames$People", "isHead", "(I)Z"⟩, 1), (⟨"OtherNames$People", "strikeOutAllUnder", "(I)V"⟩, 1), (⟨"OtherNames", "nameIn", "(II)I"⟩, 6), (⟨"OtherNames$Names", "countWith", "(II)I"⟩, 2), (⟨"OtherNames", "areTwoHouses", "(II)Z"⟩, 6), (⟨"OtherNames", "isBridged", "(III)Z"⟩, 6), (⟨"OtherNames", "crossWith", "(III)I"⟩, 6), (⟨"OtherNames", "enter", "(IIIII)V"⟩, 6), (⟨"OtherNames", "headBehind", "(II)I"⟩, 6), (⟨"OtherNames$People", "areAlike", "(III)Z"⟩, 1), (⟨"OtherNames", "isTooSmall", "(II)Z"⟩, 6), (⟨"OtherNames", "tellOfHouse", "(II)I"⟩, 6), (⟨"OtherNamesModel", "isPerson", "(I)Z"⟩, 26), (⟨"OtherNamesModel", "strikes", "(I)V"⟩, 26), (⟨"OtherNamesModel", "head", "(I)I"⟩, 26)]
theorem lw_r1 : ∀ q ∈ lw_privs_1, lw_okq q := List.forall_mem_cons.mpr ⟨lw_p0, List.forall_mem_cons.mpr ⟨lw_p1, List.forall_mem_cons.mpr ⟨lw_p2, List.forall_mem_cons.mpr ⟨lw_p3, List.forall_mem_cons.mpr ⟨lw_p4, List.forall_mem_cons.mpr ⟨lw_p5, List.forall_mem_cons.mpr ⟨lw_p6, List.forall_mem_cons.mpr ⟨lw_p7, List.forall_mem_cons.mpr ⟨lw_p8, List.forall_mem_cons.mpr ⟨lw_p9, List.forall_mem_cons.mpr ⟨lw_p10, List.forall_mem_cons.mpr ⟨lw_p11, List.forall_mem_cons.mpr ⟨lw_p12, List.forall_mem_cons.mpr ⟨lw_p13, List.forall_mem_cons.mpr ⟨lw_p14, List.forall_mem_cons.mpr ⟨lw_p15, fun _ h => absurd h List.not_mem_nil⟩⟩⟩⟩⟩⟩⟩⟩⟩⟩⟩⟩⟩⟩⟩⟩
theorem lw_p16 : lw_okq (⟨"OtherNamesModel", "isHouse", "(I)Z"⟩, 26) := ⟨⟨by decide +kernel, by decide +kernel⟩, List.mem_of_getElem? (i := 466) (by decide +kernel), List.mem_of_getElem? (i := 602) (by decide +kernel), List.mem_of_getElem? (i := 603) (by decide +kernel)⟩
theorem lw_p17 : lw_okq (⟨"OtherNamesModel", "namesOf", "(II)I"⟩, 26) := ⟨⟨by decide +kernel, by decide +kernel⟩, List.mem_of_getElem? (i := 466) (by decide +kernel), List.mem_of_getElem? (i := 606) (by decide +kernel), List.mem_of_getElem? (i := 607) (by decide +kernel)⟩
theorem lw_p18 : lw_okq (⟨"OtherNamesModel", "spanNow", "(I)I"⟩, 26) := ⟨⟨by decide +kernel, by decide +kernel⟩, List.mem_of_getElem? (i := 466) (by decide +kernel), List.mem_of_getElem? (i := 610) (by decide +kernel), List.mem_of_getElem? (i := 611) (by decide +kernel)⟩
theorem lw_p19 : lw_okq (⟨"OtherNamesModel", "firstOf", "(III)I"⟩, 26) := ⟨⟨by decide +kernel, by decide +kernel⟩, List.mem_of_getElem? (i := 466) (by decide +kernel), List.mem_of_getElem? (i := 614) (by decide +kernel), List.mem_of_getElem? (i := 615) (by decide +kernel)⟩
theorem lw_p20 : lw_okq (⟨"OtherNamesModel", "find", "(II)I"⟩, 26) := ⟨⟨by decide +kernel, by decide +kernel⟩, List.mem_of_getElem? (i := 466) (by decide +kernel), List.mem_of_getElem? (i := 622) (by decide +kernel), List.mem_of_getElem? (i := 623) (by decide +kernel)⟩
theorem lw_p21 : lw_okq (⟨"OtherNamesModel", "isHeld", "(III)Z"⟩, 26) := ⟨⟨by decide +kernel, by decide +kernel⟩, List.mem_of_getElem? (i := 466) (by decide +kernel), List.mem_of_getElem? (i := 634) (by decide +kernel), List.mem_of_getElem? (i := 635) (by decide +kernel)⟩
theorem lw_p22 : lw_okq (⟨"OtherNamesModel", "crossed", "(III)I"⟩, 26) := ⟨⟨by decide +kernel, by decide +kernel⟩, List.mem_of_getElem? (i := 466) (by decide +kernel), List.mem_of_getElem? (i := 642) (by decide +kernel), List.mem_of_getElem? (i := 643) (by decide +kernel)⟩
theorem lw_p23 : lw_okq (⟨"OtherNamesModel", "writes", "(IIIII)V"⟩, 26) := ⟨⟨by decide +kernel, by decide +kernel⟩, List.mem_of_getElem? (i := 466) (by decide +kernel), List.mem_of_getElem? (i := 646) (by decide +kernel), List.mem_of_getElem? (i := 647) (by decide +kernel)⟩
theorem lw_p24 : lw_okq (⟨"OtherNamesModel", "knows", "(II)Z"⟩, 26) := ⟨⟨by decide +kernel, by decide +kernel⟩, List.mem_of_getElem? (i := 466) (by decide +kernel), List.mem_of_getElem? (i := 670) (by decide +kernel), List.mem_of_getElem? (i := 671) (by decide +kernel)⟩
theorem lw_p25 : lw_okq (⟨"OtherNamesModel", "group", "(III)I"⟩, 26) := ⟨⟨by decide +kernel, by decide +kernel⟩, List.mem_of_getElem? (i := 466) (by decide +kernel), List.mem_of_getElem? (i := 674) (by decide +kernel), List.mem_of_getElem? (i := 675) (by decide +kernel)⟩
theorem lw_p26 : lw_okq (⟨"OtherNamesModel", "areAlike", "(III)Z"⟩, 26) := ⟨⟨by decide +kernel, by decide +kernel⟩, List.mem_of_getElem? (i := 466) (by decide +kernel), List.mem_of_getElem? (i := 678) (by decide +kernel), List.mem_of_getElem? (i := 679) (by decide +kernel)⟩
theorem lw_p27 : lw_okq (⟨"OtherNamesModel", "known", "(I)I"⟩, 26) := ⟨⟨by decide +kernel, by decide +kernel⟩, List.mem_of_getElem? (i := 466) (by decide +kernel), List.mem_of_getElem? (i := 702) (by decide +kernel), List.mem_of_getElem? (i := 703) (by decide +kernel)⟩
def lw_privs_2 : List (MethodName × Nat) := [(⟨"OtherNamesModel", "isHouse", "(I)Z"⟩, 26), (⟨"OtherNamesModel", "namesOf", "(II)I"⟩, 26), (⟨"OtherNamesModel", "spanNow", "(I)I"⟩, 26), (⟨"OtherNamesModel", "firstOf", "(III)I"⟩, 26), (⟨"OtherNamesModel", "find", "(II)I"⟩, 26), (⟨"OtherNamesModel", "isHeld", "(III)Z"⟩, 26), (⟨"OtherNamesModel", "crossed", "(III)I"⟩, 26), (⟨"OtherNamesModel", "writes", "(IIIII)V"⟩, 26), (⟨"OtherNamesModel", "knows", "(II)Z"⟩, 26), (⟨"OtherNamesModel", "group", "(III)I"⟩, 26), (⟨"OtherNamesModel", "areAlike", "(III)Z"⟩, 26), (⟨"OtherNamesModel", "known", "(I)I"⟩, 26)]
theorem lw_r2 : ∀ q ∈ lw_privs_2, lw_okq q := List.forall_mem_cons.mpr ⟨lw_p16, List.forall_mem_cons.mpr ⟨lw_p17, List.forall_mem_cons.mpr ⟨lw_p18, List.forall_mem_cons.mpr ⟨lw_p19, List.forall_mem_cons.mpr ⟨lw_p20, List.forall_mem_cons.mpr ⟨lw_p21, List.forall_mem_cons.mpr ⟨lw_p22, List.forall_mem_cons.mpr ⟨lw_p23, List.forall_mem_cons.mpr ⟨lw_p24, List.forall_mem_cons.mpr ⟨lw_p25, List.forall_mem_cons.mpr ⟨lw_p26, List.forall_mem_cons.mpr ⟨lw_p27, fun _ h => absurd h List.not_mem_nil⟩⟩⟩⟩⟩⟩⟩⟩⟩⟩⟩⟩
def lw_privs : List (MethodName × Nat) := lw_privs_1 ++ (lw_privs_2)
def lw_tbl : List Cond := k2_sels lw_privs ++ tables_1
theorem lw_privs_ok : ∀ q ∈ lw_privs, lw_okq q := by
  show ∀ q ∈ lw_privs_1 ++ (lw_privs_2), lw_okq q
  exact List.forall_mem_append.mpr ⟨lw_r1, lw_r2⟩
end
section
/-! ===== BEGIN words of one list among another's, by their places ===== -/
theorem goodIn_r {big : List Cond} (ws : List Cond) (ps : List Nat) (hp : ws = ps.filterMap (fun i => big[i]?)) (h : ws.all goodWord = true) : GoodIn big ws := by
  intro w hw
  have h1 := List.all_eq_true.mp h w hw
  rw [hp] at hw
  obtain ⟨i, -, hi⟩ := List.mem_filterMap.mp hw
  have hm : w ∈ big := by first | exact List.mem_of_getElem? hi | exact List.getElem?_mem hi
  exact ⟨hm, good_of_word h1⟩
theorem goodIn_app {big a b : List Cond} (ha : GoodIn big a) (hb : GoodIn big b) : GoodIn big (a ++ b) := fun w h => (List.mem_append.mp h).elim (ha w) (hb w)
theorem goodIn_ca {big a b : List Cond} {c : Cond} (ha : GoodIn big (c :: a)) (hb : GoodIn big b) : GoodIn big (c :: (a ++ b)) := fun w h => (List.mem_cons.mp h).elim (fun e => ha w (List.mem_cons.mpr (Or.inl e))) (fun h => (List.mem_append.mp h).elim (fun h => ha w (List.mem_cons.mpr (Or.inr h))) (hb w))
theorem goodIn_sub {big ws : List Cond} (hm : ∀ w ∈ ws, w ∈ big) (h : ws.all goodWord = true) : GoodIn big ws := fun w hw => ⟨hm w hw, good_of_word (List.all_eq_true.mp h w hw)⟩
/-! ===== END ===== -/

/-! ===== BEGIN printed: names, fields, word lists, decode rows ===== -/
def RX0 : String := "OtherNames$Houses"
def TX0 : u_T := fun k => match k with
  | _ => ("OtherNames$Houses", "rows", "LOtherNames$Rows;", true)
def tyX0 : Nat → FieldType := fun k => match k with
  | _ => .object "OtherNames$Rows"
abbrev wsX00 : List Cond := u_ws RX0 TX0 1
theorem nmX0 : ∀ a, a < 1 → ∀ b, b < 1 → a ≠ b → (TX0 a).2.1 ≠ (TX0 b).2.1 := by decide +kernel
theorem tyX0_ok : ∀ k, k < 1 → parseFieldDescriptor (TX0 k).2.2.1 = some (tyX0 k) := by decide +kernel
abbrev cX0_init : ByteArray := prog_2_method_1_code
def yX0_init : MethodName := ⟨RX0, "<init>", "()V"⟩
abbrev cX0_size : ByteArray := prog_2_method_2_code
def yX0_size : MethodName := ⟨RX0, "size", "()I"⟩
abbrev cX0_isThere : ByteArray := prog_2_method_3_code
def yX0_isThere : MethodName := ⟨RX0, "isThere", "(I)Z"⟩
abbrev cX0_add : ByteArray := prog_2_method_4_code
def yX0_add : MethodName := ⟨RX0, "add", "(IIIII)I"⟩
abbrev cX0_isSpanned : ByteArray := prog_2_method_5_code
def yX0_isSpanned : MethodName := ⟨RX0, "isSpanned", "(I)Z"⟩
abbrev cX0_seedOf : ByteArray := prog_2_method_6_code
def yX0_seedOf : MethodName := ⟨RX0, "seedOf", "(I)I"⟩
abbrev cX0_leastOf : ByteArray := prog_2_method_7_code
def yX0_leastOf : MethodName := ⟨RX0, "leastOf", "(I)I"⟩
abbrev cX0_reasonCounts : ByteArray := prog_2_method_8_code
def yX0_reasonCounts : MethodName := ⟨RX0, "reasonCounts", "(II)Z"⟩
abbrev cX0_isLost : ByteArray := prog_2_method_9_code
def yX0_isLost : MethodName := ⟨RX0, "isLost", "(I)Z"⟩
abbrev cX0_setLost : ByteArray := prog_2_method_10_code
def yX0_setLost : MethodName := ⟨RX0, "setLost", "(IZ)V"⟩
abbrev cX0_nameNumber : ByteArray := prog_2_method_11_code
def yX0_nameNumber : MethodName := ⟨RX0, "nameNumber", "(II)I"⟩
abbrev cX0_spanNumber : ByteArray := prog_2_method_12_code
def yX0_spanNumber : MethodName := ⟨RX0, "spanNumber", "(III)I"⟩
def RX1 : String := "OtherNames$Names"
def TX1 : u_T := fun k => match k with
  | 0 => ("OtherNames$Names", "rows", "LOtherNames$Rows;", true)
  | _ => ("OtherNames$Names", "people", "LOtherNames$People;", true)
def tyX1 : Nat → FieldType := fun k => match k with
  | 0 => .object "OtherNames$Rows"
  | _ => .object "OtherNames$People"
abbrev wsX10 : List Cond := u_ws RX1 TX1 2
theorem nmX1 : ∀ a, a < 2 → ∀ b, b < 2 → a ≠ b → (TX1 a).2.1 ≠ (TX1 b).2.1 := by decide +kernel
theorem tyX1_ok : ∀ k, k < 2 → parseFieldDescriptor (TX1 k).2.2.1 = some (tyX1 k) := by decide +kernel
abbrev cX1_init : ByteArray := prog_3_method_1_code
def yX1_init : MethodName := ⟨RX1, "<init>", "(LOtherNames$People;)V"⟩
abbrev cX1_size : ByteArray := prog_3_method_2_code
def yX1_size : MethodName := ⟨RX1, "size", "()I"⟩
abbrev cX1_cell : ByteArray := prog_3_method_3_code
def yX1_cell : MethodName := ⟨RX1, "cell", "(II)I"⟩
abbrev cX1_nameAt : ByteArray := prog_3_method_4_code
def yX1_nameAt : MethodName := ⟨RX1, "nameAt", "(I)I"⟩
abbrev cX1_ownerAt : ByteArray := prog_3_method_5_code
def yX1_ownerAt : MethodName := ⟨RX1, "ownerAt", "(I)I"⟩
abbrev cX1_spanNumberAt : ByteArray := prog_3_method_6_code
def yX1_spanNumberAt : MethodName := ⟨RX1, "spanNumberAt", "(I)I"⟩
abbrev cX1_add : ByteArray := prog_3_method_7_code
def yX1_add : MethodName := ⟨RX1, "add", "(IIIII)I"⟩
abbrev cX1_find : ByteArray := prog_3_method_8_code
def yX1_find : MethodName := ⟨RX1, "find", "(II)I"⟩
abbrev cX1_firstFor : ByteArray := prog_3_method_9_code
def yX1_firstFor : MethodName := ⟨RX1, "firstFor", "(III)I"⟩
abbrev cX1_leadsTo : ByteArray := prog_3_method_10_code
def yX1_leadsTo : MethodName := ⟨RX1, "leadsTo", "(I)I"⟩
abbrev cX1_countGivenBy : ByteArray := prog_3_method_11_code
def yX1_countGivenBy : MethodName := ⟨RX1, "countGivenBy", "(I)I"⟩
abbrev cX1_countOwnedBy : ByteArray := prog_3_method_12_code
def yX1_countOwnedBy : MethodName := ⟨RX1, "countOwnedBy", "(I)I"⟩
abbrev cX1_knownTo : ByteArray := prog_3_method_13_code
def yX1_knownTo : MethodName := ⟨RX1, "knownTo", "(I)I"⟩
abbrev cX1_countWith : ByteArray := prog_3_method_14_code
def yX1_countWith : MethodName := ⟨RX1, "countWith", "(II)I"⟩
def RX2 : String := "OtherNames$People"
def TX2 : u_T := fun k => match k with
  | _ => ("OtherNames$People", "rows", "LOtherNames$Rows;", true)
def tyX2 : Nat → FieldType := fun k => match k with
  | _ => .object "OtherNames$Rows"
abbrev wsX20 : List Cond := u_ws RX2 TX2 1
theorem nmX2 : ∀ a, a < 1 → ∀ b, b < 1 → a ≠ b → (TX2 a).2.1 ≠ (TX2 b).2.1 := by decide +kernel
theorem tyX2_ok : ∀ k, k < 1 → parseFieldDescriptor (TX2 k).2.2.1 = some (tyX2 k) := by decide +kernel
abbrev cX2_init : ByteArray := prog_4_method_1_code
def yX2_init : MethodName := ⟨RX2, "<init>", "()V"⟩
abbrev cX2_isMark : ByteArray := prog_4_method_2_code
def yX2_isMark : MethodName := ⟨RX2, "isMark", "(I)Z"⟩
abbrev cX2_isMarkNumber : ByteArray := prog_4_method_3_code
def yX2_isMarkNumber : MethodName := ⟨RX2, "isMarkNumber", "(I)Z"⟩
abbrev cX2_size : ByteArray := prog_4_method_4_code
def yX2_size : MethodName := ⟨RX2, "size", "()I"⟩
abbrev cX2_isThere : ByteArray := prog_4_method_5_code
def yX2_isThere : MethodName := ⟨RX2, "isThere", "(I)Z"⟩
abbrev cX2_add : ByteArray := prog_4_method_6_code
def yX2_add : MethodName := ⟨RX2, "add", "(IIII)I"⟩
abbrev cX2_setMark : ByteArray := prog_4_method_7_code
def yX2_setMark : MethodName := ⟨RX2, "setMark", "(III)Z"⟩
abbrev cX2_markOf : ByteArray := prog_4_method_8_code
def yX2_markOf : MethodName := ⟨RX2, "markOf", "(II)I"⟩
abbrev cX2_holderOf : ByteArray := prog_4_method_9_code
def yX2_holderOf : MethodName := ⟨RX2, "holderOf", "(I)I"⟩
abbrev cX2_headOf : ByteArray := prog_4_method_10_code
def yX2_headOf : MethodName := ⟨RX2, "headOf", "(I)I"⟩
abbrev cX2_isStruckOut : ByteArray := prog_4_method_11_code
def yX2_isStruckOut : MethodName := ⟨RX2, "isStruckOut", "(I)Z"⟩
abbrev cX2_join : ByteArray := prog_4_method_12_code
def yX2_join : MethodName := ⟨RX2, "join", "(II)Z"⟩
abbrev cX2_leave : ByteArray := prog_4_method_13_code
def yX2_leave : MethodName := ⟨RX2, "leave", "(I)Z"⟩
abbrev cX2_strikeOut : ByteArray := prog_4_method_14_code
def yX2_strikeOut : MethodName := ⟨RX2, "strikeOut", "(I)Z"⟩
abbrev cX2_groupSize : ByteArray := prog_4_method_15_code
def yX2_groupSize : MethodName := ⟨RX2, "groupSize", "(III)I"⟩
abbrev cX2_countHaving : ByteArray := prog_4_method_16_code
def yX2_countHaving : MethodName := ⟨RX2, "countHaving", "(III)I"⟩
abbrev cX2_isHead : ByteArray := prog_4_method_17_code
def yX2_isHead : MethodName := ⟨RX2, "isHead", "(I)Z"⟩
abbrev cX2_strikeOutAllUnder : ByteArray := prog_4_method_18_code
def yX2_strikeOutAllUnder : MethodName := ⟨RX2, "strikeOutAllUnder", "(I)V"⟩
abbrev cX2_areAlike : ByteArray := prog_4_method_19_code
def yX2_areAlike : MethodName := ⟨RX2, "areAlike", "(III)Z"⟩
abbrev cX2_isAmong : ByteArray := prog_4_method_20_code
def yX2_isAmong : MethodName := ⟨RX2, "isAmong", "(II)Z"⟩
def RX3 : String := "OtherNames$Rows"
def TX3 : u_T := fun k => match k with
  | 0 => ("OtherNames$Rows", "most", "I", true)
  | 1 => ("OtherNames$Rows", "width", "I", true)
  | 2 => ("OtherNames$Rows", "cells", "[I", true)
  | _ => ("OtherNames$Rows", "size", "I", false)
def tyX3 : Nat → FieldType := fun k => match k with
  | 0 => .int
  | 1 => .int
  | 2 => .array .int
  | _ => .int
abbrev wsX30 : List Cond := u_ws RX3 TX3 4
theorem nmX3 : ∀ a, a < 4 → ∀ b, b < 4 → a ≠ b → (TX3 a).2.1 ≠ (TX3 b).2.1 := by decide +kernel
theorem tyX3_ok : ∀ k, k < 4 → parseFieldDescriptor (TX3 k).2.2.1 = some (tyX3 k) := by decide +kernel
abbrev cX3_init : ByteArray := prog_5_method_1_code
def yX3_init : MethodName := ⟨RX3, "<init>", "(II)V"⟩
abbrev cX3_size : ByteArray := prog_5_method_2_code
def yX3_size : MethodName := ⟨RX3, "size", "()I"⟩
abbrev cX3_isFull : ByteArray := prog_5_method_3_code
def yX3_isFull : MethodName := ⟨RX3, "isFull", "()Z"⟩
abbrev cX3_isThere : ByteArray := prog_5_method_4_code
def yX3_isThere : MethodName := ⟨RX3, "isThere", "(I)Z"⟩
abbrev cX3_addRow : ByteArray := prog_5_method_5_code
def yX3_addRow : MethodName := ⟨RX3, "addRow", "()I"⟩
abbrev cX3_at : ByteArray := prog_5_method_6_code
def yX3_at : MethodName := ⟨RX3, "at", "(II)I"⟩
abbrev cX3_put : ByteArray := prog_5_method_7_code
def yX3_put : MethodName := ⟨RX3, "put", "(III)V"⟩
abbrev cX3_hasCell : ByteArray := prog_5_method_8_code
def yX3_hasCell : MethodName := ⟨RX3, "hasCell", "(II)Z"⟩
def RX4 : String := "OtherNames"
def TX4 : u_T := fun k => match k with
  | 0 => ("OtherNames", "people", "LOtherNames$People;", true)
  | 1 => ("OtherNames", "houses", "LOtherNames$Houses;", true)
  | 2 => ("OtherNames", "names", "LOtherNames$Names;", true)
  | 3 => ("OtherNames", "bridges", "LOtherNames$Rows;", true)
  | 4 => ("OtherNames", "entries", "LOtherNames$Rows;", true)
  | _ => ("OtherNames", "today", "I", false)
def tyX4 : Nat → FieldType := fun k => match k with
  | 0 => .object "OtherNames$People"
  | 1 => .object "OtherNames$Houses"
  | 2 => .object "OtherNames$Names"
  | 3 => .object "OtherNames$Rows"
  | 4 => .object "OtherNames$Rows"
  | _ => .int
abbrev wsX40 : List Cond := u_ws RX4 TX4 6
theorem nmX4 : ∀ a, a < 6 → ∀ b, b < 6 → a ≠ b → (TX4 a).2.1 ≠ (TX4 b).2.1 := by decide +kernel
theorem tyX4_ok : ∀ k, k < 6 → parseFieldDescriptor (TX4 k).2.2.1 = some (tyX4 k) := by decide +kernel
abbrev cX4_init : ByteArray := prog_1_method_1_code
def yX4_init : MethodName := ⟨RX4, "<init>", "()V"⟩
abbrev cX4_person : ByteArray := prog_1_method_2_code
def yX4_person : MethodName := ⟨RX4, "person", "(IIII)I"⟩
abbrev cX4_mark : ByteArray := prog_1_method_3_code
def yX4_mark : MethodName := ⟨RX4, "mark", "(III)Z"⟩
abbrev cX4_house : ByteArray := prog_1_method_4_code
def yX4_house : MethodName := ⟨RX4, "house", "(IIIII)I"⟩
abbrev cX4_day : ByteArray := prog_1_method_5_code
def yX4_day : MethodName := ⟨RX4, "day", "(I)Z"⟩
abbrev cX4_one : ByteArray := prog_1_method_6_code
def yX4_one : MethodName := ⟨RX4, "one", "(II)Z"⟩
abbrev cX4_part : ByteArray := prog_1_method_7_code
def yX4_part : MethodName := ⟨RX4, "part", "(I)Z"⟩
abbrev cX4_strike : ByteArray := prog_1_method_8_code
def yX4_strike : MethodName := ⟨RX4, "strike", "(I)Z"⟩
abbrev cX4_name : ByteArray := prog_1_method_9_code
def yX4_name : MethodName := ⟨RX4, "name", "(II)I"⟩
abbrev cX4_leads : ByteArray := prog_1_method_10_code
def yX4_leads : MethodName := ⟨RX4, "leads", "(II)I"⟩
abbrev cX4_bridge : ByteArray := prog_1_method_11_code
def yX4_bridge : MethodName := ⟨RX4, "bridge", "(IIII)Z"⟩
abbrev cX4_holds : ByteArray := prog_1_method_12_code
def yX4_holds : MethodName := ⟨RX4, "holds", "(III)I"⟩
abbrev cX4_cross : ByteArray := prog_1_method_13_code
def yX4_cross : MethodName := ⟨RX4, "cross", "(IIII)I"⟩
abbrev cX4_back : ByteArray := prog_1_method_14_code
def yX4_back : MethodName := ⟨RX4, "back", "(IIIII)I"⟩
abbrev cX4_lose : ByteArray := prog_1_method_15_code
def yX4_lose : MethodName := ⟨RX4, "lose", "(I)Z"⟩
abbrev cX4_anew : ByteArray := prog_1_method_16_code
def yX4_anew : MethodName := ⟨RX4, "anew", "(II)Z"⟩
abbrev cX4_joins : ByteArray := prog_1_method_17_code
def yX4_joins : MethodName := ⟨RX4, "joins", "(III)I"⟩
abbrev cX4_least : ByteArray := prog_1_method_18_code
def yX4_least : MethodName := ⟨RX4, "least", "(II)I"⟩
abbrev cX4_count : ByteArray := prog_1_method_19_code
def yX4_count : MethodName := ⟨RX4, "count", "(III)I"⟩
abbrev cX4_record : ByteArray := prog_1_method_20_code
def yX4_record : MethodName := ⟨RX4, "record", "(II)I"⟩
abbrev cX4_given : ByteArray := prog_1_method_21_code
def yX4_given : MethodName := ⟨RX4, "given", "(II)I"⟩
abbrev cX4_look : ByteArray := prog_1_method_22_code
def yX4_look : MethodName := ⟨RX4, "look", "(II)I"⟩
abbrev cX4_tell : ByteArray := prog_1_method_23_code
def yX4_tell : MethodName := ⟨RX4, "tell", "(I)I"⟩
abbrev cX4_tellOfHouse : ByteArray := prog_1_method_24_code
def yX4_tellOfHouse : MethodName := ⟨RX4, "tellOfHouse", "(II)I"⟩
abbrev cX4_nameIn : ByteArray := prog_1_method_25_code
def yX4_nameIn : MethodName := ⟨RX4, "nameIn", "(II)I"⟩
abbrev cX4_crossWith : ByteArray := prog_1_method_26_code
def yX4_crossWith : MethodName := ⟨RX4, "crossWith", "(III)I"⟩
abbrev cX4_headBehind : ByteArray := prog_1_method_27_code
def yX4_headBehind : MethodName := ⟨RX4, "headBehind", "(II)I"⟩
abbrev cX4_enter : ByteArray := prog_1_method_28_code
def yX4_enter : MethodName := ⟨RX4, "enter", "(IIIII)V"⟩
abbrev cX4_isBridged : ByteArray := prog_1_method_29_code
def yX4_isBridged : MethodName := ⟨RX4, "isBridged", "(III)Z"⟩
abbrev cX4_isTooSmall : ByteArray := prog_1_method_30_code
def yX4_isTooSmall : MethodName := ⟨RX4, "isTooSmall", "(II)Z"⟩
abbrev cX4_areTwoHouses : ByteArray := prog_1_method_31_code
def yX4_areTwoHouses : MethodName := ⟨RX4, "areTwoHouses", "(II)Z"⟩
abbrev cX4_isDay : ByteArray := prog_1_method_32_code
def yX4_isDay : MethodName := ⟨RX4, "isDay", "(I)Z"⟩
abbrev cX4_isHand : ByteArray := prog_1_method_33_code
def yX4_isHand : MethodName := ⟨RX4, "isHand", "(I)Z"⟩
abbrev cX4_isReason : ByteArray := prog_1_method_34_code
def yX4_isReason : MethodName := ⟨RX4, "isReason", "(I)Z"⟩
abbrev cX4_areMarks : ByteArray := prog_1_method_35_code
def yX4_areMarks : MethodName := ⟨RX4, "areMarks", "(I)Z"⟩
abbrev cX4_oneIf : ByteArray := prog_1_method_36_code
def yX4_oneIf : MethodName := ⟨RX4, "oneIf", "(Z)I"⟩
def RX5 : String := "OtherNamesModel"
def TX5 : u_T := fun k => match k with
  | 0 => ("OtherNamesModel", "people", "I", false)
  | 1 => ("OtherNamesModel", "houses", "I", false)
  | 2 => ("OtherNamesModel", "now", "I", false)
  | 3 => ("OtherNamesModel", "names", "I", false)
  | 4 => ("OtherNamesModel", "bridges", "I", false)
  | 5 => ("OtherNamesModel", "entries", "I", false)
  | 6 => ("OtherNamesModel", "marks", "[I", true)
  | 7 => ("OtherNamesModel", "within", "[I", true)
  | 8 => ("OtherNamesModel", "isStruck", "[Z", true)
  | 9 => ("OtherNamesModel", "kind", "[I", true)
  | 10 => ("OtherNamesModel", "span", "[I", true)
  | 11 => ("OtherNamesModel", "seed", "[I", true)
  | 12 => ("OtherNamesModel", "reasons", "[I", true)
  | 13 => ("OtherNamesModel", "leastOf", "[I", true)
  | 14 => ("OtherNamesModel", "many", "[I", true)
  | 15 => ("OtherNamesModel", "isLost", "[Z", true)
  | 16 => ("OtherNamesModel", "nameHouse", "[I", true)
  | 17 => ("OtherNamesModel", "nameOf", "[I", true)
  | 18 => ("OtherNamesModel", "owner", "[I", true)
  | 19 => ("OtherNamesModel", "nameDay", "[I", true)
  | 20 => ("OtherNamesModel", "nameSpan", "[I", true)
  | 21 => ("OtherNamesModel", "bridgeFrom", "[I", true)
  | 22 => ("OtherNamesModel", "bridgeTo", "[I", true)
  | 23 => ("OtherNamesModel", "bridgeFirst", "[I", true)
  | 24 => ("OtherNamesModel", "bridgeLast", "[I", true)
  | _ => ("OtherNamesModel", "entry", "[I", true)
def tyX5 : Nat → FieldType := fun k => match k with
  | 0 => .int
  | 1 => .int
  | 2 => .int
  | 3 => .int
  | 4 => .int
  | 5 => .int
  | 6 => .array .int
  | 7 => .array .int
  | 8 => .array .boolean
  | 9 => .array .int
  | 10 => .array .int
  | 11 => .array .int
  | 12 => .array .int
  | 13 => .array .int
  | 14 => .array .int
  | 15 => .array .boolean
  | 16 => .array .int
  | 17 => .array .int
  | 18 => .array .int
  | 19 => .array .int
  | 20 => .array .int
  | 21 => .array .int
  | 22 => .array .int
  | 23 => .array .int
  | 24 => .array .int
  | _ => .array .int
abbrev wsX50 : List Cond := u_ws RX5 TX5 26
theorem nmX5 : ∀ a, a < 26 → ∀ b, b < 26 → a ≠ b → (TX5 a).2.1 ≠ (TX5 b).2.1 := by decide +kernel
theorem tyX5_ok : ∀ k, k < 26 → parseFieldDescriptor (TX5 k).2.2.1 = some (tyX5 k) := by decide +kernel
abbrev cX5_init : ByteArray := prog_7_method_1_code
def yX5_init : MethodName := ⟨RX5, "<init>", "()V"⟩
abbrev cX5_in : ByteArray := prog_7_method_2_code
def yX5_in : MethodName := ⟨RX5, "in", "(III)Z"⟩
abbrev cX5_isPerson : ByteArray := prog_7_method_3_code
def yX5_isPerson : MethodName := ⟨RX5, "isPerson", "(I)Z"⟩
abbrev cX5_isMark : ByteArray := prog_7_method_4_code
def yX5_isMark : MethodName := ⟨RX5, "isMark", "(I)Z"⟩
abbrev cX5_person : ByteArray := prog_7_method_5_code
def yX5_person : MethodName := ⟨RX5, "person", "(IIII)I"⟩
abbrev cX5_mark : ByteArray := prog_7_method_6_code
def yX5_mark : MethodName := ⟨RX5, "mark", "(III)Z"⟩
abbrev cX5_head : ByteArray := prog_7_method_7_code
def yX5_head : MethodName := ⟨RX5, "head", "(I)I"⟩
abbrev cX5_strikes : ByteArray := prog_7_method_8_code
def yX5_strikes : MethodName := ⟨RX5, "strikes", "(I)V"⟩
abbrev cX5_one : ByteArray := prog_7_method_9_code
def yX5_one : MethodName := ⟨RX5, "one", "(II)Z"⟩
abbrev cX5_part : ByteArray := prog_7_method_10_code
def yX5_part : MethodName := ⟨RX5, "part", "(I)Z"⟩
abbrev cX5_strike : ByteArray := prog_7_method_11_code
def yX5_strike : MethodName := ⟨RX5, "strike", "(I)Z"⟩
abbrev cX5_day : ByteArray := prog_7_method_12_code
def yX5_day : MethodName := ⟨RX5, "day", "(I)Z"⟩
abbrev cX5_isHouse : ByteArray := prog_7_method_13_code
def yX5_isHouse : MethodName := ⟨RX5, "isHouse", "(I)Z"⟩
abbrev cX5_house : ByteArray := prog_7_method_14_code
def yX5_house : MethodName := ⟨RX5, "house", "(IIIII)I"⟩
abbrev cX5_spanNow : ByteArray := prog_7_method_15_code
def yX5_spanNow : MethodName := ⟨RX5, "spanNow", "(I)I"⟩
abbrev cX5_firstOf : ByteArray := prog_7_method_16_code
def yX5_firstOf : MethodName := ⟨RX5, "firstOf", "(III)I"⟩
abbrev cX5_find : ByteArray := prog_7_method_17_code
def yX5_find : MethodName := ⟨RX5, "find", "(II)I"⟩
abbrev cX5_namesOf : ByteArray := prog_7_method_18_code
def yX5_namesOf : MethodName := ⟨RX5, "namesOf", "(II)I"⟩
abbrev cX5_name : ByteArray := prog_7_method_19_code
def yX5_name : MethodName := ⟨RX5, "name", "(II)I"⟩
abbrev cX5_leads : ByteArray := prog_7_method_20_code
def yX5_leads : MethodName := ⟨RX5, "leads", "(II)I"⟩
abbrev cX5_bridge : ByteArray := prog_7_method_21_code
def yX5_bridge : MethodName := ⟨RX5, "bridge", "(IIII)Z"⟩
abbrev cX5_isHeld : ByteArray := prog_7_method_22_code
def yX5_isHeld : MethodName := ⟨RX5, "isHeld", "(III)Z"⟩
abbrev cX5_holds : ByteArray := prog_7_method_23_code
def yX5_holds : MethodName := ⟨RX5, "holds", "(III)I"⟩
abbrev cX5_writes : ByteArray := prog_7_method_24_code
def yX5_writes : MethodName := ⟨RX5, "writes", "(IIIII)V"⟩
abbrev cX5_crossed : ByteArray := prog_7_method_25_code
def yX5_crossed : MethodName := ⟨RX5, "crossed", "(III)I"⟩
abbrev cX5_cross : ByteArray := prog_7_method_26_code
def yX5_cross : MethodName := ⟨RX5, "cross", "(IIII)I"⟩
abbrev cX5_back : ByteArray := prog_7_method_27_code
def yX5_back : MethodName := ⟨RX5, "back", "(IIIII)I"⟩
abbrev cX5_lose : ByteArray := prog_7_method_28_code
def yX5_lose : MethodName := ⟨RX5, "lose", "(I)Z"⟩
abbrev cX5_anew : ByteArray := prog_7_method_29_code
def yX5_anew : MethodName := ⟨RX5, "anew", "(II)Z"⟩
abbrev cX5_record : ByteArray := prog_7_method_30_code
def yX5_record : MethodName := ⟨RX5, "record", "(II)I"⟩
abbrev cX5_knows : ByteArray := prog_7_method_31_code
def yX5_knows : MethodName := ⟨RX5, "knows", "(II)Z"⟩
abbrev cX5_areAlike : ByteArray := prog_7_method_32_code
def yX5_areAlike : MethodName := ⟨RX5, "areAlike", "(III)Z"⟩
abbrev cX5_group : ByteArray := prog_7_method_33_code
def yX5_group : MethodName := ⟨RX5, "group", "(III)I"⟩
abbrev cX5_joins : ByteArray := prog_7_method_34_code
def yX5_joins : MethodName := ⟨RX5, "joins", "(III)I"⟩
abbrev cX5_least : ByteArray := prog_7_method_35_code
def yX5_least : MethodName := ⟨RX5, "least", "(II)I"⟩
abbrev cX5_count : ByteArray := prog_7_method_36_code
def yX5_count : MethodName := ⟨RX5, "count", "(III)I"⟩
abbrev cX5_given : ByteArray := prog_7_method_37_code
def yX5_given : MethodName := ⟨RX5, "given", "(II)I"⟩
abbrev cX5_look : ByteArray := prog_7_method_38_code
def yX5_look : MethodName := ⟨RX5, "look", "(II)I"⟩
abbrev cX5_known : ByteArray := prog_7_method_39_code
def yX5_known : MethodName := ⟨RX5, "known", "(I)I"⟩
abbrev cX5_tell : ByteArray := prog_7_method_40_code
def yX5_tell : MethodName := ⟨RX5, "tell", "(I)I"⟩
def RJ6 : String := "java/lang/Integer"
def TJ6 : u_T := fun k => match k with
  | _ => ("", "", "", false)
def tyJ6 : Nat → FieldType := fun k => match k with
  | _ => .int
abbrev wsJ60 : List Cond := u_ws RJ6 TJ6 0
theorem nmJ6 : ∀ a, a < 0 → ∀ b, b < 0 → a ≠ b → (TJ6 a).2.1 ≠ (TJ6 b).2.1 := by decide +kernel
theorem tyJ6_ok : ∀ k, k < 0 → parseFieldDescriptor (TJ6 k).2.2.1 = some (tyJ6 k) := by decide +kernel
abbrev cJ6_bitCount_0f7a4 : ByteArray := prog_8_method_49_code
def yJ6_bitCount_0f7a4 : MethodName := ⟨RJ6, "bitCount", "(I)I"⟩
def RJ9 : String := "java/lang/Math"
def TJ9 : u_T := fun k => match k with
  | _ => ("", "", "", false)
def tyJ9 : Nat → FieldType := fun k => match k with
  | _ => .int
abbrev wsJ90 : List Cond := u_ws RJ9 TJ9 0
theorem nmJ9 : ∀ a, a < 0 → ∀ b, b < 0 → a ≠ b → (TJ9 a).2.1 ≠ (TJ9 b).2.1 := by decide +kernel
theorem tyJ9_ok : ∀ k, k < 0 → parseFieldDescriptor (TJ9 k).2.2.1 = some (tyJ9 k) := by decide +kernel
abbrev cJ9_max_7cf53 : ByteArray := prog_9_method_65_code
def yJ9_max_7cf53 : MethodName := ⟨RJ9, "max", "(II)I"⟩
def RL : String := "OtherNamesLaw"
abbrev cL_law : ByteArray := code
def yL_law : MethodName := ⟨RL, "law", "([I)Z"⟩
def wsX3_init : List Cond := .code yX3_init cX3_init 3 none :: ([.methodLink RX3 3 objectInit, .instanceMethod objectInit, .code objectInit ⟨#[0xb1]⟩ 1 none, .methodLink RX3 9 Lib.Math.max.name, .static Lib.Math.max.name, .initialized "java/lang/Math", .code Lib.Math.max.name Lib.Math.max.code 2 (some .int), .fieldLink RX3 15 "OtherNames$Rows" "most" "I", .fieldLink RX3 21 "OtherNames$Rows" "width" "I", .arrayClass .int, .fieldLink RX3 24 "OtherNames$Rows" "cells" "[I", .fieldLink RX3 28 "OtherNames$Rows" "size" "I"] ++ wsX30)
def wsX0_init : List Cond := .code yX0_init cX0_init 1 none :: ([.methodLink RX0 3 objectInit, .instanceMethod objectInit, .code objectInit ⟨#[0xb1]⟩ 1 none, .classLink RX0 9 RX3, .instantiable RX3 4, .initialized RX3, .fieldLink RX0 16 "OtherNames$Houses" "rows" "LOtherNames$Rows;", .methodLink RX0 13 yX3_init, .instanceMethod yX3_init, .code yX3_init cX3_init 3 none, .methodLink RX3 3 objectInit, .methodLink RX3 9 Lib.Math.max.name, .static Lib.Math.max.name, .initialized "java/lang/Math", .code Lib.Math.max.name Lib.Math.max.code 2 (some .int), .fieldLink RX3 15 "OtherNames$Rows" "most" "I", .fieldLink RX3 21 "OtherNames$Rows" "width" "I", .arrayClass .int, .fieldLink RX3 24 "OtherNames$Rows" "cells" "[I", .fieldLink RX3 28 "OtherNames$Rows" "size" "I"] ++ wsX30 ++ wsX00)
def wsX3_size : List Cond := .code yX3_size cX3_size 1 (some .int) :: ([.fieldLink RX3 28 "OtherNames$Rows" "size" "I"] ++ wsX30)
def wsX0_size : List Cond := .code yX0_size cX0_size 1 (some .int) :: ([.fieldLink RX0 16 "OtherNames$Houses" "rows" "LOtherNames$Rows;", .methodLink RX0 20 yX3_size, .instanceMethod yX3_size, .selects RX3 yX3_size yX3_size, .initialized RX3, .code yX3_size cX3_size 1 (some .int), .fieldLink RX3 28 "OtherNames$Rows" "size" "I"] ++ wsX00 ++ wsX30)
def wsX3_isThere : List Cond := .code yX3_isThere cX3_isThere 2 (some .boolean) :: ([.fieldLink RX3 28 "OtherNames$Rows" "size" "I"] ++ wsX30)
def wsX0_isThere : List Cond := .code yX0_isThere cX0_isThere 2 (some .boolean) :: ([.fieldLink RX0 16 "OtherNames$Houses" "rows" "LOtherNames$Rows;", .methodLink RX0 24 yX3_isThere, .instanceMethod yX3_isThere, .selects RX3 yX3_isThere yX3_isThere, .initialized RX3, .code yX3_isThere cX3_isThere 2 (some .boolean), .fieldLink RX3 28 "OtherNames$Rows" "size" "I"] ++ wsX00 ++ wsX30)
def wsX3_isFull : List Cond := .code yX3_isFull cX3_isFull 1 (some .boolean) :: ([.fieldLink RX3 28 "OtherNames$Rows" "size" "I", .fieldLink RX3 15 "OtherNames$Rows" "most" "I"] ++ wsX30)
def wsX3_addRow : List Cond := .code yX3_addRow cX3_addRow 1 (some .int) :: ([.fieldLink RX3 28 "OtherNames$Rows" "size" "I", .methodLink RX3 31 yX3_isFull, .instanceMethod yX3_isFull, .selects RX3 yX3_isFull yX3_isFull, .initialized RX3, .code yX3_isFull cX3_isFull 1 (some .boolean), .fieldLink RX3 15 "OtherNames$Rows" "most" "I"] ++ wsX30)
def wsX3_hasCell : List Cond := .code yX3_hasCell cX3_hasCell 3 (some .boolean) :: ([.fieldLink RX3 28 "OtherNames$Rows" "size" "I", .fieldLink RX3 21 "OtherNames$Rows" "width" "I"] ++ wsX30)
def wsX3_put : List Cond := .code yX3_put cX3_put 4 none :: ([.fieldLink RX3 24 "OtherNames$Rows" "cells" "[I", .fieldLink RX3 21 "OtherNames$Rows" "width" "I", .methodLink RX3 35 yX3_hasCell, .instanceMethod yX3_hasCell, .selects RX3 yX3_hasCell yX3_hasCell, .initialized RX3, .code yX3_hasCell cX3_hasCell 3 (some .boolean), .fieldLink RX3 28 "OtherNames$Rows" "size" "I"] ++ wsX30)
def wsX0_add : List Cond := .code yX0_add cX0_add 7 (some .int) :: ([.fieldLink RX0 16 "OtherNames$Houses" "rows" "LOtherNames$Rows;", .methodLink RX0 28 yX3_addRow, .instanceMethod yX3_addRow, .selects RX3 yX3_addRow yX3_addRow, .initialized RX3, .code yX3_addRow cX3_addRow 1 (some .int), .fieldLink RX3 28 "OtherNames$Rows" "size" "I", .methodLink RX3 31 yX3_isFull, .instanceMethod yX3_isFull, .selects RX3 yX3_isFull yX3_isFull, .code yX3_isFull cX3_isFull 1 (some .boolean), .fieldLink RX3 15 "OtherNames$Rows" "most" "I", .methodLink RX0 31 yX3_put, .instanceMethod yX3_put, .selects RX3 yX3_put yX3_put, .code yX3_put cX3_put 4 none, .fieldLink RX3 24 "OtherNames$Rows" "cells" "[I", .fieldLink RX3 21 "OtherNames$Rows" "width" "I", .methodLink RX3 35 yX3_hasCell, .instanceMethod yX3_hasCell, .selects RX3 yX3_hasCell yX3_hasCell, .code yX3_hasCell cX3_hasCell 3 (some .boolean)] ++ wsX00 ++ wsX30)
def wsX3_at : List Cond := .code yX3_at cX3_at 3 (some .int) :: ([.fieldLink RX3 24 "OtherNames$Rows" "cells" "[I", .fieldLink RX3 21 "OtherNames$Rows" "width" "I", .methodLink RX3 35 yX3_hasCell, .instanceMethod yX3_hasCell, .selects RX3 yX3_hasCell yX3_hasCell, .initialized RX3, .code yX3_hasCell cX3_hasCell 3 (some .boolean), .fieldLink RX3 28 "OtherNames$Rows" "size" "I"] ++ wsX30)
def wsX0_isSpanned : List Cond := .code yX0_isSpanned cX0_isSpanned 2 (some .boolean) :: ([.fieldLink RX0 16 "OtherNames$Houses" "rows" "LOtherNames$Rows;", .methodLink RX0 35 yX3_at, .instanceMethod yX3_at, .selects RX3 yX3_at yX3_at, .initialized RX3, .code yX3_at cX3_at 3 (some .int), .fieldLink RX3 24 "OtherNames$Rows" "cells" "[I", .fieldLink RX3 21 "OtherNames$Rows" "width" "I", .methodLink RX3 35 yX3_hasCell, .instanceMethod yX3_hasCell, .selects RX3 yX3_hasCell yX3_hasCell, .code yX3_hasCell cX3_hasCell 3 (some .boolean), .fieldLink RX3 28 "OtherNames$Rows" "size" "I"] ++ wsX00 ++ wsX30)
def wsX0_seedOf : List Cond := .code yX0_seedOf cX0_seedOf 2 (some .int) :: ([.fieldLink RX0 16 "OtherNames$Houses" "rows" "LOtherNames$Rows;", .methodLink RX0 35 yX3_at, .instanceMethod yX3_at, .selects RX3 yX3_at yX3_at, .initialized RX3, .code yX3_at cX3_at 3 (some .int), .fieldLink RX3 24 "OtherNames$Rows" "cells" "[I", .fieldLink RX3 21 "OtherNames$Rows" "width" "I", .methodLink RX3 35 yX3_hasCell, .instanceMethod yX3_hasCell, .selects RX3 yX3_hasCell yX3_hasCell, .code yX3_hasCell cX3_hasCell 3 (some .boolean), .fieldLink RX3 28 "OtherNames$Rows" "size" "I"] ++ wsX00 ++ wsX30)
def wsX0_leastOf : List Cond := .code yX0_leastOf cX0_leastOf 2 (some .int) :: ([.fieldLink RX0 16 "OtherNames$Houses" "rows" "LOtherNames$Rows;", .methodLink RX0 35 yX3_at, .instanceMethod yX3_at, .selects RX3 yX3_at yX3_at, .initialized RX3, .code yX3_at cX3_at 3 (some .int), .fieldLink RX3 24 "OtherNames$Rows" "cells" "[I", .fieldLink RX3 21 "OtherNames$Rows" "width" "I", .methodLink RX3 35 yX3_hasCell, .instanceMethod yX3_hasCell, .selects RX3 yX3_hasCell yX3_hasCell, .code yX3_hasCell cX3_hasCell 3 (some .boolean), .fieldLink RX3 28 "OtherNames$Rows" "size" "I"] ++ wsX00 ++ wsX30)
def wsX0_reasonCounts : List Cond := .code yX0_reasonCounts cX0_reasonCounts 3 (some .boolean) :: ([.fieldLink RX0 16 "OtherNames$Houses" "rows" "LOtherNames$Rows;", .methodLink RX0 35 yX3_at, .instanceMethod yX3_at, .selects RX3 yX3_at yX3_at, .initialized RX3, .code yX3_at cX3_at 3 (some .int), .fieldLink RX3 24 "OtherNames$Rows" "cells" "[I", .fieldLink RX3 21 "OtherNames$Rows" "width" "I", .methodLink RX3 35 yX3_hasCell, .instanceMethod yX3_hasCell, .selects RX3 yX3_hasCell yX3_hasCell, .code yX3_hasCell cX3_hasCell 3 (some .boolean), .fieldLink RX3 28 "OtherNames$Rows" "size" "I"] ++ wsX00 ++ wsX30)
def wsX0_isLost : List Cond := .code yX0_isLost cX0_isLost 2 (some .boolean) :: ([.fieldLink RX0 16 "OtherNames$Houses" "rows" "LOtherNames$Rows;", .methodLink RX0 35 yX3_at, .instanceMethod yX3_at, .selects RX3 yX3_at yX3_at, .initialized RX3, .code yX3_at cX3_at 3 (some .int), .fieldLink RX3 24 "OtherNames$Rows" "cells" "[I", .fieldLink RX3 21 "OtherNames$Rows" "width" "I", .methodLink RX3 35 yX3_hasCell, .instanceMethod yX3_hasCell, .selects RX3 yX3_hasCell yX3_hasCell, .code yX3_hasCell cX3_hasCell 3 (some .boolean), .fieldLink RX3 28 "OtherNames$Rows" "size" "I"] ++ wsX00 ++ wsX30)
def wsX0_setLost : List Cond := .code yX0_setLost cX0_setLost 3 none :: ([.fieldLink RX0 16 "OtherNames$Houses" "rows" "LOtherNames$Rows;", .methodLink RX0 31 yX3_put, .instanceMethod yX3_put, .selects RX3 yX3_put yX3_put, .initialized RX3, .code yX3_put cX3_put 4 none, .fieldLink RX3 24 "OtherNames$Rows" "cells" "[I", .fieldLink RX3 21 "OtherNames$Rows" "width" "I", .methodLink RX3 35 yX3_hasCell, .instanceMethod yX3_hasCell, .selects RX3 yX3_hasCell yX3_hasCell, .code yX3_hasCell cX3_hasCell 3 (some .boolean), .fieldLink RX3 28 "OtherNames$Rows" "size" "I"] ++ wsX00 ++ wsX30)
def wsX0_nameNumber : List Cond := .code yX0_nameNumber cX0_nameNumber 3 (some .int) :: ([.methodLink RX0 39 yX0_seedOf, .instanceMethod yX0_seedOf, .selects RX0 yX0_seedOf yX0_seedOf, .initialized RX0, .code yX0_seedOf cX0_seedOf 2 (some .int), .fieldLink RX0 16 "OtherNames$Houses" "rows" "LOtherNames$Rows;", .methodLink RX0 35 yX3_at, .instanceMethod yX3_at, .selects RX3 yX3_at yX3_at, .initialized RX3, .code yX3_at cX3_at 3 (some .int), .fieldLink RX3 24 "OtherNames$Rows" "cells" "[I", .fieldLink RX3 21 "OtherNames$Rows" "width" "I", .methodLink RX3 35 yX3_hasCell, .instanceMethod yX3_hasCell, .selects RX3 yX3_hasCell yX3_hasCell, .code yX3_hasCell cX3_hasCell 3 (some .boolean), .fieldLink RX3 28 "OtherNames$Rows" "size" "I"] ++ wsX00 ++ wsX30)
def wsX0_spanNumber : List Cond := .code yX0_spanNumber cX0_spanNumber 5 (some .int) :: ([.fieldLink RX0 16 "OtherNames$Houses" "rows" "LOtherNames$Rows;", .methodLink RX0 35 yX3_at, .instanceMethod yX3_at, .selects RX3 yX3_at yX3_at, .initialized RX3, .code yX3_at cX3_at 3 (some .int), .fieldLink RX3 24 "OtherNames$Rows" "cells" "[I", .fieldLink RX3 21 "OtherNames$Rows" "width" "I", .methodLink RX3 35 yX3_hasCell, .instanceMethod yX3_hasCell, .selects RX3 yX3_hasCell yX3_hasCell, .code yX3_hasCell cX3_hasCell 3 (some .boolean), .fieldLink RX3 28 "OtherNames$Rows" "size" "I", .methodLink RX0 43 yX0_isSpanned, .instanceMethod yX0_isSpanned, .selects RX0 yX0_isSpanned yX0_isSpanned, .initialized RX0, .code yX0_isSpanned cX0_isSpanned 2 (some .boolean)] ++ wsX00 ++ wsX30)
def wsX1_init : List Cond := .code yX1_init cX1_init 2 none :: ([.methodLink RX1 3 objectInit, .instanceMethod objectInit, .code objectInit ⟨#[0xb1]⟩ 1 none, .classLink RX1 9 RX3, .instantiable RX3 4, .initialized RX3, .fieldLink RX1 16 "OtherNames$Names" "rows" "LOtherNames$Rows;", .fieldLink RX1 20 "OtherNames$Names" "people" "LOtherNames$People;", .methodLink RX1 13 yX3_init, .instanceMethod yX3_init, .code yX3_init cX3_init 3 none, .methodLink RX3 3 objectInit, .methodLink RX3 9 Lib.Math.max.name, .static Lib.Math.max.name, .initialized "java/lang/Math", .code Lib.Math.max.name Lib.Math.max.code 2 (some .int), .fieldLink RX3 15 "OtherNames$Rows" "most" "I", .fieldLink RX3 21 "OtherNames$Rows" "width" "I", .arrayClass .int, .fieldLink RX3 24 "OtherNames$Rows" "cells" "[I", .fieldLink RX3 28 "OtherNames$Rows" "size" "I"] ++ wsX30 ++ wsX10)
def wsX1_size : List Cond := .code yX1_size cX1_size 1 (some .int) :: ([.fieldLink RX1 16 "OtherNames$Names" "rows" "LOtherNames$Rows;", .methodLink RX1 24 yX3_size, .instanceMethod yX3_size, .selects RX3 yX3_size yX3_size, .initialized RX3, .code yX3_size cX3_size 1 (some .int), .fieldLink RX3 28 "OtherNames$Rows" "size" "I"] ++ wsX10 ++ wsX30)
def wsX1_cell : List Cond := .code yX1_cell cX1_cell 3 (some .int) :: ([.fieldLink RX1 16 "OtherNames$Names" "rows" "LOtherNames$Rows;", .methodLink RX1 28 yX3_at, .instanceMethod yX3_at, .selects RX3 yX3_at yX3_at, .initialized RX3, .code yX3_at cX3_at 3 (some .int), .fieldLink RX3 24 "OtherNames$Rows" "cells" "[I", .fieldLink RX3 21 "OtherNames$Rows" "width" "I", .methodLink RX3 35 yX3_hasCell, .instanceMethod yX3_hasCell, .selects RX3 yX3_hasCell yX3_hasCell, .code yX3_hasCell cX3_hasCell 3 (some .boolean), .fieldLink RX3 28 "OtherNames$Rows" "size" "I"] ++ wsX10 ++ wsX30)
def wsX1_nameAt : List Cond := .code yX1_nameAt cX1_nameAt 2 (some .int) :: ([.fieldLink RX1 16 "OtherNames$Names" "rows" "LOtherNames$Rows;", .methodLink RX1 28 yX3_at, .instanceMethod yX3_at, .selects RX3 yX3_at yX3_at, .initialized RX3, .code yX3_at cX3_at 3 (some .int), .fieldLink RX3 24 "OtherNames$Rows" "cells" "[I", .fieldLink RX3 21 "OtherNames$Rows" "width" "I", .methodLink RX3 35 yX3_hasCell, .instanceMethod yX3_hasCell, .selects RX3 yX3_hasCell yX3_hasCell, .code yX3_hasCell cX3_hasCell 3 (some .boolean), .fieldLink RX3 28 "OtherNames$Rows" "size" "I"] ++ wsX10 ++ wsX30)
def wsX1_ownerAt : List Cond := .code yX1_ownerAt cX1_ownerAt 2 (some .int) :: ([.fieldLink RX1 16 "OtherNames$Names" "rows" "LOtherNames$Rows;", .methodLink RX1 28 yX3_at, .instanceMethod yX3_at, .selects RX3 yX3_at yX3_at, .initialized RX3, .code yX3_at cX3_at 3 (some .int), .fieldLink RX3 24 "OtherNames$Rows" "cells" "[I", .fieldLink RX3 21 "OtherNames$Rows" "width" "I", .methodLink RX3 35 yX3_hasCell, .instanceMethod yX3_hasCell, .selects RX3 yX3_hasCell yX3_hasCell, .code yX3_hasCell cX3_hasCell 3 (some .boolean), .fieldLink RX3 28 "OtherNames$Rows" "size" "I"] ++ wsX10 ++ wsX30)
def wsX1_spanNumberAt : List Cond := .code yX1_spanNumberAt cX1_spanNumberAt 2 (some .int) :: ([.fieldLink RX1 16 "OtherNames$Names" "rows" "LOtherNames$Rows;", .methodLink RX1 28 yX3_at, .instanceMethod yX3_at, .selects RX3 yX3_at yX3_at, .initialized RX3, .code yX3_at cX3_at 3 (some .int), .fieldLink RX3 24 "OtherNames$Rows" "cells" "[I", .fieldLink RX3 21 "OtherNames$Rows" "width" "I", .methodLink RX3 35 yX3_hasCell, .instanceMethod yX3_hasCell, .selects RX3 yX3_hasCell yX3_hasCell, .code yX3_hasCell cX3_hasCell 3 (some .boolean), .fieldLink RX3 28 "OtherNames$Rows" "size" "I"] ++ wsX10 ++ wsX30)
def wsX1_add : List Cond := .code yX1_add cX1_add 7 (some .int) :: ([.fieldLink RX1 16 "OtherNames$Names" "rows" "LOtherNames$Rows;", .methodLink RX1 32 yX3_addRow, .instanceMethod yX3_addRow, .selects RX3 yX3_addRow yX3_addRow, .initialized RX3, .code yX3_addRow cX3_addRow 1 (some .int), .fieldLink RX3 28 "OtherNames$Rows" "size" "I", .methodLink RX3 31 yX3_isFull, .instanceMethod yX3_isFull, .selects RX3 yX3_isFull yX3_isFull, .code yX3_isFull cX3_isFull 1 (some .boolean), .fieldLink RX3 15 "OtherNames$Rows" "most" "I", .methodLink RX1 35 yX3_put, .instanceMethod yX3_put, .selects RX3 yX3_put yX3_put, .code yX3_put cX3_put 4 none, .fieldLink RX3 24 "OtherNames$Rows" "cells" "[I", .fieldLink RX3 21 "OtherNames$Rows" "width" "I", .methodLink RX3 35 yX3_hasCell, .instanceMethod yX3_hasCell, .selects RX3 yX3_hasCell yX3_hasCell, .code yX3_hasCell cX3_hasCell 3 (some .boolean)] ++ wsX10 ++ wsX30)
def wsX1_find : List Cond := .code yX1_find cX1_find 4 (some .int) :: ([.fieldLink RX1 16 "OtherNames$Names" "rows" "LOtherNames$Rows;", .methodLink RX1 24 yX3_size, .instanceMethod yX3_size, .selects RX3 yX3_size yX3_size, .initialized RX3, .code yX3_size cX3_size 1 (some .int), .fieldLink RX3 28 "OtherNames$Rows" "size" "I", .methodLink RX1 28 yX3_at, .instanceMethod yX3_at, .selects RX3 yX3_at yX3_at, .code yX3_at cX3_at 3 (some .int), .fieldLink RX3 24 "OtherNames$Rows" "cells" "[I", .fieldLink RX3 21 "OtherNames$Rows" "width" "I", .methodLink RX3 35 yX3_hasCell, .instanceMethod yX3_hasCell, .selects RX3 yX3_hasCell yX3_hasCell, .code yX3_hasCell cX3_hasCell 3 (some .boolean), .methodLink RX1 39 yX1_nameAt, .instanceMethod yX1_nameAt, .selects RX1 yX1_nameAt yX1_nameAt, .initialized RX1, .code yX1_nameAt cX1_nameAt 2 (some .int)] ++ wsX10 ++ wsX30)
def wsX2_headOf : List Cond := .code yX2_headOf cX2_headOf 4 (some .int) :: ([.fieldLink RX2 16 "OtherNames$People" "rows" "LOtherNames$Rows;", .methodLink RX2 42 yX3_at, .instanceMethod yX3_at, .selects RX3 yX3_at yX3_at, .initialized RX3, .code yX3_at cX3_at 3 (some .int), .fieldLink RX3 24 "OtherNames$Rows" "cells" "[I", .fieldLink RX3 21 "OtherNames$Rows" "width" "I", .methodLink RX3 35 yX3_hasCell, .instanceMethod yX3_hasCell, .selects RX3 yX3_hasCell yX3_hasCell, .code yX3_hasCell cX3_hasCell 3 (some .boolean), .fieldLink RX3 28 "OtherNames$Rows" "size" "I"] ++ wsX20 ++ wsX30)
def wsX1_firstFor_r1 : List Cond := [Cond.fieldLink RX1 16 "OtherNames$Names" "rows" "LOtherNames$Rows;", Cond.fieldLink RX1 20 "OtherNames$Names" "people" "LOtherNames$People;", Cond.methodLink RX1 24 yX3_size, Cond.instanceMethod yX3_size, Cond.selects RX3 yX3_size yX3_size, Cond.initialized RX3, Cond.code yX3_size cX3_size 1 (some .int), Cond.fieldLink RX3 28 "OtherNames$Rows" "size" "I", Cond.methodLink RX1 28 yX3_at, Cond.instanceMethod yX3_at, Cond.selects RX3 yX3_at yX3_at, Cond.code yX3_at cX3_at 3 (some .int), Cond.fieldLink RX3 24 "OtherNames$Rows" "cells" "[I", Cond.fieldLink RX3 21 "OtherNames$Rows" "width" "I", Cond.methodLink RX3 35 yX3_hasCell, Cond.instanceMethod yX3_hasCell, Cond.selects RX3 yX3_hasCell yX3_hasCell, Cond.code yX3_hasCell cX3_hasCell 3 (some .boolean), Cond.methodLink RX1 43 yX1_spanNumberAt, Cond.instanceMethod yX1_spanNumberAt, Cond.selects RX1 yX1_spanNumberAt yX1_spanNumberAt, Cond.initialized RX1, Cond.code yX1_spanNumberAt cX1_spanNumberAt 2 (some .int), Cond.methodLink RX1 46 yX1_ownerAt]
def wsX1_firstFor_r2 : List Cond := [Cond.instanceMethod yX1_ownerAt, Cond.selects RX1 yX1_ownerAt yX1_ownerAt, Cond.code yX1_ownerAt cX1_ownerAt 2 (some .int), Cond.methodLink RX1 49 yX2_headOf, Cond.instanceMethod yX2_headOf, Cond.selects RX2 yX2_headOf yX2_headOf, Cond.initialized RX2, Cond.code yX2_headOf cX2_headOf 4 (some .int), Cond.fieldLink RX2 16 "OtherNames$People" "rows" "LOtherNames$Rows;", Cond.methodLink RX2 42 yX3_at]
def wsX1_firstFor : List Cond := .code yX1_firstFor cX1_firstFor 6 (some .int) :: ((wsX1_firstFor_r1 ++ wsX1_firstFor_r2) ++ wsX10 ++ wsX30 ++ wsX20)
def wsX1_leadsTo_r1 : List Cond := [Cond.fieldLink RX1 16 "OtherNames$Names" "rows" "LOtherNames$Rows;", Cond.fieldLink RX1 20 "OtherNames$Names" "people" "LOtherNames$People;", Cond.methodLink RX1 28 yX3_at, Cond.instanceMethod yX3_at, Cond.selects RX3 yX3_at yX3_at, Cond.initialized RX3, Cond.code yX3_at cX3_at 3 (some .int), Cond.fieldLink RX3 24 "OtherNames$Rows" "cells" "[I", Cond.fieldLink RX3 21 "OtherNames$Rows" "width" "I", Cond.methodLink RX3 35 yX3_hasCell, Cond.instanceMethod yX3_hasCell, Cond.selects RX3 yX3_hasCell yX3_hasCell, Cond.code yX3_hasCell cX3_hasCell 3 (some .boolean), Cond.fieldLink RX3 28 "OtherNames$Rows" "size" "I", Cond.methodLink RX1 43 yX1_spanNumberAt, Cond.instanceMethod yX1_spanNumberAt, Cond.selects RX1 yX1_spanNumberAt yX1_spanNumberAt, Cond.initialized RX1, Cond.code yX1_spanNumberAt cX1_spanNumberAt 2 (some .int), Cond.methodLink RX1 46 yX1_ownerAt, Cond.instanceMethod yX1_ownerAt, Cond.selects RX1 yX1_ownerAt yX1_ownerAt, Cond.code yX1_ownerAt cX1_ownerAt 2 (some .int), Cond.methodLink RX1 49 yX2_headOf]
def wsX1_leadsTo_r2 : List Cond := [Cond.instanceMethod yX2_headOf, Cond.selects RX2 yX2_headOf yX2_headOf, Cond.initialized RX2, Cond.code yX2_headOf cX2_headOf 4 (some .int), Cond.fieldLink RX2 16 "OtherNames$People" "rows" "LOtherNames$Rows;", Cond.methodLink RX2 42 yX3_at, Cond.methodLink RX1 54 yX1_firstFor, Cond.instanceMethod yX1_firstFor, Cond.selects RX1 yX1_firstFor yX1_firstFor, Cond.code yX1_firstFor cX1_firstFor 6 (some .int), Cond.methodLink RX1 24 yX3_size, Cond.instanceMethod yX3_size, Cond.selects RX3 yX3_size yX3_size, Cond.code yX3_size cX3_size 1 (some .int)]
def wsX1_leadsTo : List Cond := .code yX1_leadsTo cX1_leadsTo 2 (some .int) :: ((wsX1_leadsTo_r1 ++ wsX1_leadsTo_r2) ++ wsX10 ++ wsX30 ++ wsX20)
def wsX1_countWith : List Cond := .code yX1_countWith cX1_countWith 5 (some .int) :: ([.fieldLink RX1 16 "OtherNames$Names" "rows" "LOtherNames$Rows;", .methodLink RX1 24 yX3_size, .instanceMethod yX3_size, .selects RX3 yX3_size yX3_size, .initialized RX3, .code yX3_size cX3_size 1 (some .int), .fieldLink RX3 28 "OtherNames$Rows" "size" "I", .methodLink RX1 28 yX3_at, .instanceMethod yX3_at, .selects RX3 yX3_at yX3_at, .code yX3_at cX3_at 3 (some .int), .fieldLink RX3 24 "OtherNames$Rows" "cells" "[I", .fieldLink RX3 21 "OtherNames$Rows" "width" "I", .methodLink RX3 35 yX3_hasCell, .instanceMethod yX3_hasCell, .selects RX3 yX3_hasCell yX3_hasCell, .code yX3_hasCell cX3_hasCell 3 (some .boolean)] ++ wsX10 ++ wsX30)
def wsX1_countGivenBy : List Cond := .code yX1_countGivenBy cX1_countGivenBy 2 (some .int) :: ([.methodLink RX1 58 yX1_countWith, .instanceMethod yX1_countWith, .selects RX1 yX1_countWith yX1_countWith, .initialized RX1, .code yX1_countWith cX1_countWith 5 (some .int), .fieldLink RX1 16 "OtherNames$Names" "rows" "LOtherNames$Rows;", .methodLink RX1 24 yX3_size, .instanceMethod yX3_size, .selects RX3 yX3_size yX3_size, .initialized RX3, .code yX3_size cX3_size 1 (some .int), .fieldLink RX3 28 "OtherNames$Rows" "size" "I", .methodLink RX1 28 yX3_at, .instanceMethod yX3_at, .selects RX3 yX3_at yX3_at, .code yX3_at cX3_at 3 (some .int), .fieldLink RX3 24 "OtherNames$Rows" "cells" "[I", .fieldLink RX3 21 "OtherNames$Rows" "width" "I", .methodLink RX3 35 yX3_hasCell, .instanceMethod yX3_hasCell, .selects RX3 yX3_hasCell yX3_hasCell, .code yX3_hasCell cX3_hasCell 3 (some .boolean)] ++ wsX10 ++ wsX30)
def wsX1_countOwnedBy : List Cond := .code yX1_countOwnedBy cX1_countOwnedBy 2 (some .int) :: ([.methodLink RX1 58 yX1_countWith, .instanceMethod yX1_countWith, .selects RX1 yX1_countWith yX1_countWith, .initialized RX1, .code yX1_countWith cX1_countWith 5 (some .int), .fieldLink RX1 16 "OtherNames$Names" "rows" "LOtherNames$Rows;", .methodLink RX1 24 yX3_size, .instanceMethod yX3_size, .selects RX3 yX3_size yX3_size, .initialized RX3, .code yX3_size cX3_size 1 (some .int), .fieldLink RX3 28 "OtherNames$Rows" "size" "I", .methodLink RX1 28 yX3_at, .instanceMethod yX3_at, .selects RX3 yX3_at yX3_at, .code yX3_at cX3_at 3 (some .int), .fieldLink RX3 24 "OtherNames$Rows" "cells" "[I", .fieldLink RX3 21 "OtherNames$Rows" "width" "I", .methodLink RX3 35 yX3_hasCell, .instanceMethod yX3_hasCell, .selects RX3 yX3_hasCell yX3_hasCell, .code yX3_hasCell cX3_hasCell 3 (some .boolean)] ++ wsX10 ++ wsX30)
def wsX2_isStruckOut : List Cond := .code yX2_isStruckOut cX2_isStruckOut 2 (some .boolean) :: ([.fieldLink RX2 16 "OtherNames$People" "rows" "LOtherNames$Rows;", .methodLink RX2 42 yX3_at, .instanceMethod yX3_at, .selects RX3 yX3_at yX3_at, .initialized RX3, .code yX3_at cX3_at 3 (some .int), .fieldLink RX3 24 "OtherNames$Rows" "cells" "[I", .fieldLink RX3 21 "OtherNames$Rows" "width" "I", .methodLink RX3 35 yX3_hasCell, .instanceMethod yX3_hasCell, .selects RX3 yX3_hasCell yX3_hasCell, .code yX3_hasCell cX3_hasCell 3 (some .boolean), .fieldLink RX3 28 "OtherNames$Rows" "size" "I"] ++ wsX20 ++ wsX30)
def wsX1_knownTo_r1 : List Cond := [Cond.fieldLink RX1 16 "OtherNames$Names" "rows" "LOtherNames$Rows;", Cond.fieldLink RX1 20 "OtherNames$Names" "people" "LOtherNames$People;", Cond.methodLink RX1 24 yX3_size, Cond.instanceMethod yX3_size, Cond.selects RX3 yX3_size yX3_size, Cond.initialized RX3, Cond.code yX3_size cX3_size 1 (some .int), Cond.fieldLink RX3 28 "OtherNames$Rows" "size" "I", Cond.methodLink RX1 46 yX1_ownerAt, Cond.instanceMethod yX1_ownerAt, Cond.selects RX1 yX1_ownerAt yX1_ownerAt, Cond.initialized RX1, Cond.code yX1_ownerAt cX1_ownerAt 2 (some .int), Cond.methodLink RX1 28 yX3_at, Cond.instanceMethod yX3_at, Cond.selects RX3 yX3_at yX3_at, Cond.code yX3_at cX3_at 3 (some .int), Cond.fieldLink RX3 24 "OtherNames$Rows" "cells" "[I", Cond.fieldLink RX3 21 "OtherNames$Rows" "width" "I", Cond.methodLink RX3 35 yX3_hasCell, Cond.instanceMethod yX3_hasCell, Cond.selects RX3 yX3_hasCell yX3_hasCell, Cond.code yX3_hasCell cX3_hasCell 3 (some .boolean), Cond.methodLink RX1 49 yX2_headOf]
def wsX1_knownTo_r2 : List Cond := [Cond.instanceMethod yX2_headOf, Cond.selects RX2 yX2_headOf yX2_headOf, Cond.initialized RX2, Cond.code yX2_headOf cX2_headOf 4 (some .int), Cond.fieldLink RX2 16 "OtherNames$People" "rows" "LOtherNames$Rows;", Cond.methodLink RX2 42 yX3_at, Cond.methodLink RX1 61 yX2_isStruckOut, Cond.instanceMethod yX2_isStruckOut, Cond.selects RX2 yX2_isStruckOut yX2_isStruckOut, Cond.code yX2_isStruckOut cX2_isStruckOut 2 (some .boolean)]
def wsX1_knownTo : List Cond := .code yX1_knownTo cX1_knownTo 5 (some .int) :: ((wsX1_knownTo_r1 ++ wsX1_knownTo_r2) ++ wsX10 ++ wsX30 ++ wsX20)
def wsX2_init : List Cond := .code yX2_init cX2_init 1 none :: ([.methodLink RX2 3 objectInit, .instanceMethod objectInit, .code objectInit ⟨#[0xb1]⟩ 1 none, .classLink RX2 9 RX3, .instantiable RX3 4, .initialized RX3, .fieldLink RX2 16 "OtherNames$People" "rows" "LOtherNames$Rows;", .methodLink RX2 13 yX3_init, .instanceMethod yX3_init, .code yX3_init cX3_init 3 none, .methodLink RX3 3 objectInit, .methodLink RX3 9 Lib.Math.max.name, .static Lib.Math.max.name, .initialized "java/lang/Math", .code Lib.Math.max.name Lib.Math.max.code 2 (some .int), .fieldLink RX3 15 "OtherNames$Rows" "most" "I", .fieldLink RX3 21 "OtherNames$Rows" "width" "I", .arrayClass .int, .fieldLink RX3 24 "OtherNames$Rows" "cells" "[I", .fieldLink RX3 28 "OtherNames$Rows" "size" "I"] ++ wsX30 ++ wsX20)
def wsX2_isMark : List Cond := .code yX2_isMark cX2_isMark 1 (some .boolean) :: ([])
def wsX2_isMarkNumber : List Cond := .code yX2_isMarkNumber cX2_isMarkNumber 1 (some .boolean) :: ([])
def wsX2_size : List Cond := .code yX2_size cX2_size 1 (some .int) :: ([.fieldLink RX2 16 "OtherNames$People" "rows" "LOtherNames$Rows;", .methodLink RX2 20 yX3_size, .instanceMethod yX3_size, .selects RX3 yX3_size yX3_size, .initialized RX3, .code yX3_size cX3_size 1 (some .int), .fieldLink RX3 28 "OtherNames$Rows" "size" "I"] ++ wsX20 ++ wsX30)
def wsX2_isThere : List Cond := .code yX2_isThere cX2_isThere 2 (some .boolean) :: ([.fieldLink RX2 16 "OtherNames$People" "rows" "LOtherNames$Rows;", .methodLink RX2 24 yX3_isThere, .instanceMethod yX3_isThere, .selects RX3 yX3_isThere yX3_isThere, .initialized RX3, .code yX3_isThere cX3_isThere 2 (some .boolean), .fieldLink RX3 28 "OtherNames$Rows" "size" "I"] ++ wsX20 ++ wsX30)
def wsX2_add_r1 : List Cond := [Cond.fieldLink RX2 16 "OtherNames$People" "rows" "LOtherNames$Rows;", Cond.methodLink RX2 28 yX2_isMarkNumber, Cond.static yX2_isMarkNumber, Cond.initialized RX2, Cond.code yX2_isMarkNumber cX2_isMarkNumber 1 (some .boolean), Cond.methodLink RX2 31 yX3_addRow, Cond.instanceMethod yX3_addRow, Cond.selects RX3 yX3_addRow yX3_addRow, Cond.initialized RX3, Cond.code yX3_addRow cX3_addRow 1 (some .int), Cond.fieldLink RX3 28 "OtherNames$Rows" "size" "I", Cond.methodLink RX3 31 yX3_isFull, Cond.instanceMethod yX3_isFull, Cond.selects RX3 yX3_isFull yX3_isFull, Cond.code yX3_isFull cX3_isFull 1 (some .boolean), Cond.fieldLink RX3 15 "OtherNames$Rows" "most" "I", Cond.methodLink RX2 34 yX3_put, Cond.instanceMethod yX3_put, Cond.selects RX3 yX3_put yX3_put, Cond.code yX3_put cX3_put 4 none, Cond.fieldLink RX3 24 "OtherNames$Rows" "cells" "[I", Cond.fieldLink RX3 21 "OtherNames$Rows" "width" "I", Cond.methodLink RX3 35 yX3_hasCell, Cond.instanceMethod yX3_hasCell]
def wsX2_add_r2 : List Cond := [Cond.selects RX3 yX3_hasCell yX3_hasCell, Cond.code yX3_hasCell cX3_hasCell 3 (some .boolean)]
def wsX2_add : List Cond := .code yX2_add cX2_add 6 (some .int) :: ((wsX2_add_r1 ++ wsX2_add_r2) ++ wsX20 ++ wsX30)
def wsX2_setMark_r1 : List Cond := [Cond.fieldLink RX2 16 "OtherNames$People" "rows" "LOtherNames$Rows;", Cond.methodLink RX2 38 yX2_isThere, Cond.instanceMethod yX2_isThere, Cond.selects RX2 yX2_isThere yX2_isThere, Cond.initialized RX2, Cond.code yX2_isThere cX2_isThere 2 (some .boolean), Cond.methodLink RX2 24 yX3_isThere, Cond.instanceMethod yX3_isThere, Cond.selects RX3 yX3_isThere yX3_isThere, Cond.initialized RX3, Cond.code yX3_isThere cX3_isThere 2 (some .boolean), Cond.fieldLink RX3 28 "OtherNames$Rows" "size" "I", Cond.methodLink RX2 39 yX2_isMark, Cond.static yX2_isMark, Cond.code yX2_isMark cX2_isMark 1 (some .boolean), Cond.methodLink RX2 28 yX2_isMarkNumber, Cond.static yX2_isMarkNumber, Cond.code yX2_isMarkNumber cX2_isMarkNumber 1 (some .boolean), Cond.methodLink RX2 34 yX3_put, Cond.instanceMethod yX3_put, Cond.selects RX3 yX3_put yX3_put, Cond.code yX3_put cX3_put 4 none, Cond.fieldLink RX3 24 "OtherNames$Rows" "cells" "[I", Cond.fieldLink RX3 21 "OtherNames$Rows" "width" "I"]
def wsX2_setMark_r2 : List Cond := [Cond.methodLink RX3 35 yX3_hasCell, Cond.instanceMethod yX3_hasCell, Cond.selects RX3 yX3_hasCell yX3_hasCell, Cond.code yX3_hasCell cX3_hasCell 3 (some .boolean)]
def wsX2_setMark : List Cond := .code yX2_setMark cX2_setMark 4 (some .boolean) :: ((wsX2_setMark_r1 ++ wsX2_setMark_r2) ++ wsX20 ++ wsX30)
def wsX2_markOf : List Cond := .code yX2_markOf cX2_markOf 3 (some .int) :: ([.fieldLink RX2 16 "OtherNames$People" "rows" "LOtherNames$Rows;", .methodLink RX2 39 yX2_isMark, .static yX2_isMark, .initialized RX2, .code yX2_isMark cX2_isMark 1 (some .boolean), .methodLink RX2 42 yX3_at, .instanceMethod yX3_at, .selects RX3 yX3_at yX3_at, .initialized RX3, .code yX3_at cX3_at 3 (some .int), .fieldLink RX3 24 "OtherNames$Rows" "cells" "[I", .fieldLink RX3 21 "OtherNames$Rows" "width" "I", .methodLink RX3 35 yX3_hasCell, .instanceMethod yX3_hasCell, .selects RX3 yX3_hasCell yX3_hasCell, .code yX3_hasCell cX3_hasCell 3 (some .boolean), .fieldLink RX3 28 "OtherNames$Rows" "size" "I"] ++ wsX20 ++ wsX30)
def wsX2_holderOf : List Cond := .code yX2_holderOf cX2_holderOf 2 (some .int) :: ([.fieldLink RX2 16 "OtherNames$People" "rows" "LOtherNames$Rows;", .methodLink RX2 42 yX3_at, .instanceMethod yX3_at, .selects RX3 yX3_at yX3_at, .initialized RX3, .code yX3_at cX3_at 3 (some .int), .fieldLink RX3 24 "OtherNames$Rows" "cells" "[I", .fieldLink RX3 21 "OtherNames$Rows" "width" "I", .methodLink RX3 35 yX3_hasCell, .instanceMethod yX3_hasCell, .selects RX3 yX3_hasCell yX3_hasCell, .code yX3_hasCell cX3_hasCell 3 (some .boolean), .fieldLink RX3 28 "OtherNames$Rows" "size" "I"] ++ wsX20 ++ wsX30)
def wsX2_isHead_r1 : List Cond := [Cond.methodLink RX2 38 yX2_isThere, Cond.instanceMethod yX2_isThere, Cond.selects RX2 yX2_isThere yX2_isThere, Cond.initialized RX2, Cond.code yX2_isThere cX2_isThere 2 (some .boolean), Cond.fieldLink RX2 16 "OtherNames$People" "rows" "LOtherNames$Rows;", Cond.methodLink RX2 24 yX3_isThere, Cond.instanceMethod yX3_isThere, Cond.selects RX3 yX3_isThere yX3_isThere, Cond.initialized RX3, Cond.code yX3_isThere cX3_isThere 2 (some .boolean), Cond.fieldLink RX3 28 "OtherNames$Rows" "size" "I", Cond.methodLink RX2 56 yX2_holderOf, Cond.instanceMethod yX2_holderOf, Cond.selects RX2 yX2_holderOf yX2_holderOf, Cond.code yX2_holderOf cX2_holderOf 2 (some .int), Cond.methodLink RX2 42 yX3_at, Cond.instanceMethod yX3_at, Cond.selects RX3 yX3_at yX3_at, Cond.code yX3_at cX3_at 3 (some .int), Cond.fieldLink RX3 24 "OtherNames$Rows" "cells" "[I", Cond.fieldLink RX3 21 "OtherNames$Rows" "width" "I", Cond.methodLink RX3 35 yX3_hasCell, Cond.instanceMethod yX3_hasCell]
def wsX2_isHead_r2 : List Cond := [Cond.selects RX3 yX3_hasCell yX3_hasCell, Cond.code yX3_hasCell cX3_hasCell 3 (some .boolean)]
def wsX2_isHead : List Cond := .code yX2_isHead cX2_isHead 2 (some .boolean) :: ((wsX2_isHead_r1 ++ wsX2_isHead_r2) ++ wsX20 ++ wsX30)
def wsX2_strikeOutAllUnder_r1 : List Cond := [Cond.fieldLink RX2 16 "OtherNames$People" "rows" "LOtherNames$Rows;", Cond.methodLink RX2 38 yX2_isThere, Cond.instanceMethod yX2_isThere, Cond.selects RX2 yX2_isThere yX2_isThere, Cond.initialized RX2, Cond.code yX2_isThere cX2_isThere 2 (some .boolean), Cond.methodLink RX2 24 yX3_isThere, Cond.instanceMethod yX3_isThere, Cond.selects RX3 yX3_isThere yX3_isThere, Cond.initialized RX3, Cond.code yX3_isThere cX3_isThere 2 (some .boolean), Cond.fieldLink RX3 28 "OtherNames$Rows" "size" "I", Cond.methodLink RX2 60 yX2_headOf, Cond.instanceMethod yX2_headOf, Cond.selects RX2 yX2_headOf yX2_headOf, Cond.code yX2_headOf cX2_headOf 4 (some .int), Cond.methodLink RX2 42 yX3_at, Cond.instanceMethod yX3_at, Cond.selects RX3 yX3_at yX3_at, Cond.code yX3_at cX3_at 3 (some .int), Cond.fieldLink RX3 24 "OtherNames$Rows" "cells" "[I", Cond.fieldLink RX3 21 "OtherNames$Rows" "width" "I", Cond.methodLink RX3 35 yX3_hasCell, Cond.instanceMethod yX3_hasCell]
def wsX2_strikeOutAllUnder_r2 : List Cond := [Cond.selects RX3 yX3_hasCell yX3_hasCell, Cond.code yX3_hasCell cX3_hasCell 3 (some .boolean), Cond.methodLink RX2 34 yX3_put, Cond.instanceMethod yX3_put, Cond.selects RX3 yX3_put yX3_put, Cond.code yX3_put cX3_put 4 none]
def wsX2_strikeOutAllUnder : List Cond := .code yX2_strikeOutAllUnder cX2_strikeOutAllUnder 3 none :: ((wsX2_strikeOutAllUnder_r1 ++ wsX2_strikeOutAllUnder_r2) ++ wsX20 ++ wsX30)
def wsX2_join_r1 : List Cond := [Cond.fieldLink RX2 16 "OtherNames$People" "rows" "LOtherNames$Rows;", Cond.methodLink RX2 46 yX2_isHead, Cond.instanceMethod yX2_isHead, Cond.selects RX2 yX2_isHead yX2_isHead, Cond.initialized RX2, Cond.code yX2_isHead cX2_isHead 2 (some .boolean), Cond.methodLink RX2 38 yX2_isThere, Cond.instanceMethod yX2_isThere, Cond.selects RX2 yX2_isThere yX2_isThere, Cond.code yX2_isThere cX2_isThere 2 (some .boolean), Cond.methodLink RX2 24 yX3_isThere, Cond.instanceMethod yX3_isThere, Cond.selects RX3 yX3_isThere yX3_isThere, Cond.initialized RX3, Cond.code yX3_isThere cX3_isThere 2 (some .boolean), Cond.fieldLink RX3 28 "OtherNames$Rows" "size" "I", Cond.methodLink RX2 56 yX2_holderOf, Cond.instanceMethod yX2_holderOf, Cond.selects RX2 yX2_holderOf yX2_holderOf, Cond.code yX2_holderOf cX2_holderOf 2 (some .int), Cond.methodLink RX2 42 yX3_at, Cond.instanceMethod yX3_at, Cond.selects RX3 yX3_at yX3_at, Cond.code yX3_at cX3_at 3 (some .int)]
def wsX2_join_r2 : List Cond := [Cond.fieldLink RX3 24 "OtherNames$Rows" "cells" "[I", Cond.fieldLink RX3 21 "OtherNames$Rows" "width" "I", Cond.methodLink RX3 35 yX3_hasCell, Cond.instanceMethod yX3_hasCell, Cond.selects RX3 yX3_hasCell yX3_hasCell, Cond.code yX3_hasCell cX3_hasCell 3 (some .boolean), Cond.methodLink RX2 34 yX3_put, Cond.instanceMethod yX3_put, Cond.selects RX3 yX3_put yX3_put, Cond.code yX3_put cX3_put 4 none, Cond.methodLink RX2 49 yX2_isStruckOut, Cond.instanceMethod yX2_isStruckOut, Cond.selects RX2 yX2_isStruckOut yX2_isStruckOut, Cond.code yX2_isStruckOut cX2_isStruckOut 2 (some .boolean), Cond.methodLink RX2 52 yX2_strikeOutAllUnder, Cond.instanceMethod yX2_strikeOutAllUnder, Cond.selects RX2 yX2_strikeOutAllUnder yX2_strikeOutAllUnder, Cond.code yX2_strikeOutAllUnder cX2_strikeOutAllUnder 3 none, Cond.methodLink RX2 60 yX2_headOf, Cond.instanceMethod yX2_headOf, Cond.selects RX2 yX2_headOf yX2_headOf, Cond.code yX2_headOf cX2_headOf 4 (some .int)]
def wsX2_join : List Cond := .code yX2_join cX2_join 3 (some .boolean) :: ((wsX2_join_r1 ++ wsX2_join_r2) ++ wsX20 ++ wsX30)
def wsX2_leave : List Cond := .code yX2_leave cX2_leave 2 (some .boolean) :: ([.fieldLink RX2 16 "OtherNames$People" "rows" "LOtherNames$Rows;", .methodLink RX2 56 yX2_holderOf, .instanceMethod yX2_holderOf, .selects RX2 yX2_holderOf yX2_holderOf, .initialized RX2, .code yX2_holderOf cX2_holderOf 2 (some .int), .methodLink RX2 42 yX3_at, .instanceMethod yX3_at, .selects RX3 yX3_at yX3_at, .initialized RX3, .code yX3_at cX3_at 3 (some .int), .fieldLink RX3 24 "OtherNames$Rows" "cells" "[I", .fieldLink RX3 21 "OtherNames$Rows" "width" "I", .methodLink RX3 35 yX3_hasCell, .instanceMethod yX3_hasCell, .selects RX3 yX3_hasCell yX3_hasCell, .code yX3_hasCell cX3_hasCell 3 (some .boolean), .fieldLink RX3 28 "OtherNames$Rows" "size" "I", .methodLink RX2 34 yX3_put, .instanceMethod yX3_put, .selects RX3 yX3_put yX3_put, .code yX3_put cX3_put 4 none] ++ wsX20 ++ wsX30)
def wsX2_strikeOut_r1 : List Cond := [Cond.methodLink RX2 38 yX2_isThere, Cond.instanceMethod yX2_isThere, Cond.selects RX2 yX2_isThere yX2_isThere, Cond.initialized RX2, Cond.code yX2_isThere cX2_isThere 2 (some .boolean), Cond.fieldLink RX2 16 "OtherNames$People" "rows" "LOtherNames$Rows;", Cond.methodLink RX2 24 yX3_isThere, Cond.instanceMethod yX3_isThere, Cond.selects RX3 yX3_isThere yX3_isThere, Cond.initialized RX3, Cond.code yX3_isThere cX3_isThere 2 (some .boolean), Cond.fieldLink RX3 28 "OtherNames$Rows" "size" "I", Cond.methodLink RX2 49 yX2_isStruckOut, Cond.instanceMethod yX2_isStruckOut, Cond.selects RX2 yX2_isStruckOut yX2_isStruckOut, Cond.code yX2_isStruckOut cX2_isStruckOut 2 (some .boolean), Cond.methodLink RX2 42 yX3_at, Cond.instanceMethod yX3_at, Cond.selects RX3 yX3_at yX3_at, Cond.code yX3_at cX3_at 3 (some .int), Cond.fieldLink RX3 24 "OtherNames$Rows" "cells" "[I", Cond.fieldLink RX3 21 "OtherNames$Rows" "width" "I", Cond.methodLink RX3 35 yX3_hasCell, Cond.instanceMethod yX3_hasCell]
def wsX2_strikeOut_r2 : List Cond := [Cond.selects RX3 yX3_hasCell yX3_hasCell, Cond.code yX3_hasCell cX3_hasCell 3 (some .boolean), Cond.methodLink RX2 60 yX2_headOf, Cond.instanceMethod yX2_headOf, Cond.selects RX2 yX2_headOf yX2_headOf, Cond.code yX2_headOf cX2_headOf 4 (some .int), Cond.methodLink RX2 52 yX2_strikeOutAllUnder, Cond.instanceMethod yX2_strikeOutAllUnder, Cond.selects RX2 yX2_strikeOutAllUnder yX2_strikeOutAllUnder, Cond.code yX2_strikeOutAllUnder cX2_strikeOutAllUnder 3 none, Cond.methodLink RX2 34 yX3_put, Cond.instanceMethod yX3_put, Cond.selects RX3 yX3_put yX3_put, Cond.code yX3_put cX3_put 4 none]
def wsX2_strikeOut : List Cond := .code yX2_strikeOut cX2_strikeOut 2 (some .boolean) :: ((wsX2_strikeOut_r1 ++ wsX2_strikeOut_r2) ++ wsX20 ++ wsX30)
def wsX2_isAmong : List Cond := .code yX2_isAmong cX2_isAmong 2 (some .boolean) :: ([])
def wsX2_areAlike : List Cond := .code yX2_areAlike cX2_areAlike 5 (some .boolean) :: ([.methodLink RX2 63 yX2_isAmong, .static yX2_isAmong, .initialized RX2, .code yX2_isAmong cX2_isAmong 2 (some .boolean), .methodLink RX2 71 yX2_markOf, .instanceMethod yX2_markOf, .selects RX2 yX2_markOf yX2_markOf, .code yX2_markOf cX2_markOf 3 (some .int), .fieldLink RX2 16 "OtherNames$People" "rows" "LOtherNames$Rows;", .methodLink RX2 39 yX2_isMark, .static yX2_isMark, .code yX2_isMark cX2_isMark 1 (some .boolean), .methodLink RX2 42 yX3_at, .instanceMethod yX3_at, .selects RX3 yX3_at yX3_at, .initialized RX3, .code yX3_at cX3_at 3 (some .int), .fieldLink RX3 24 "OtherNames$Rows" "cells" "[I", .fieldLink RX3 21 "OtherNames$Rows" "width" "I", .methodLink RX3 35 yX3_hasCell, .instanceMethod yX3_hasCell, .selects RX3 yX3_hasCell yX3_hasCell, .code yX3_hasCell cX3_hasCell 3 (some .boolean), .fieldLink RX3 28 "OtherNames$Rows" "size" "I"] ++ wsX20 ++ wsX30)
def wsX2_groupSize_r1 : List Cond := [Cond.methodLink RX2 63 yX2_isAmong, Cond.static yX2_isAmong, Cond.initialized RX2, Cond.code yX2_isAmong cX2_isAmong 2 (some .boolean), Cond.methodLink RX2 67 yX2_areAlike, Cond.instanceMethod yX2_areAlike, Cond.selects RX2 yX2_areAlike yX2_areAlike, Cond.code yX2_areAlike cX2_areAlike 5 (some .boolean), Cond.methodLink RX2 71 yX2_markOf, Cond.instanceMethod yX2_markOf, Cond.selects RX2 yX2_markOf yX2_markOf, Cond.code yX2_markOf cX2_markOf 3 (some .int), Cond.fieldLink RX2 16 "OtherNames$People" "rows" "LOtherNames$Rows;", Cond.methodLink RX2 39 yX2_isMark, Cond.static yX2_isMark, Cond.code yX2_isMark cX2_isMark 1 (some .boolean), Cond.methodLink RX2 42 yX3_at, Cond.instanceMethod yX3_at, Cond.selects RX3 yX3_at yX3_at, Cond.initialized RX3, Cond.code yX3_at cX3_at 3 (some .int), Cond.fieldLink RX3 24 "OtherNames$Rows" "cells" "[I", Cond.fieldLink RX3 21 "OtherNames$Rows" "width" "I", Cond.methodLink RX3 35 yX3_hasCell]
def wsX2_groupSize_r2 : List Cond := [Cond.instanceMethod yX3_hasCell, Cond.selects RX3 yX3_hasCell yX3_hasCell, Cond.code yX3_hasCell cX3_hasCell 3 (some .boolean), Cond.fieldLink RX3 28 "OtherNames$Rows" "size" "I"]
def wsX2_groupSize : List Cond := .code yX2_groupSize cX2_groupSize 6 (some .int) :: ((wsX2_groupSize_r1 ++ wsX2_groupSize_r2) ++ wsX20 ++ wsX30)
def wsX2_countHaving : List Cond := .code yX2_countHaving cX2_countHaving 6 (some .int) :: ([.methodLink RX2 63 yX2_isAmong, .static yX2_isAmong, .initialized RX2, .code yX2_isAmong cX2_isAmong 2 (some .boolean), .methodLink RX2 71 yX2_markOf, .instanceMethod yX2_markOf, .selects RX2 yX2_markOf yX2_markOf, .code yX2_markOf cX2_markOf 3 (some .int), .fieldLink RX2 16 "OtherNames$People" "rows" "LOtherNames$Rows;", .methodLink RX2 39 yX2_isMark, .static yX2_isMark, .code yX2_isMark cX2_isMark 1 (some .boolean), .methodLink RX2 42 yX3_at, .instanceMethod yX3_at, .selects RX3 yX3_at yX3_at, .initialized RX3, .code yX3_at cX3_at 3 (some .int), .fieldLink RX3 24 "OtherNames$Rows" "cells" "[I", .fieldLink RX3 21 "OtherNames$Rows" "width" "I", .methodLink RX3 35 yX3_hasCell, .instanceMethod yX3_hasCell, .selects RX3 yX3_hasCell yX3_hasCell, .code yX3_hasCell cX3_hasCell 3 (some .boolean), .fieldLink RX3 28 "OtherNames$Rows" "size" "I"] ++ wsX20 ++ wsX30)
def wsX4_init_r1 : List Cond := [Cond.methodLink RX4 1 objectInit, Cond.instanceMethod objectInit, Cond.code objectInit ⟨#[0xb1]⟩ 1 none, Cond.classLink RX4 7 RX2, Cond.instantiable RX2 1, Cond.initialized RX2, Cond.fieldLink RX4 10 "OtherNames" "people" "LOtherNames$People;", Cond.classLink RX4 16 RX0, Cond.instantiable RX0 1, Cond.initialized RX0, Cond.fieldLink RX4 19 "OtherNames" "houses" "LOtherNames$Houses;", Cond.classLink RX4 23 RX1, Cond.instantiable RX1 2, Cond.initialized RX1, Cond.fieldLink RX4 28 "OtherNames" "names" "LOtherNames$Names;", Cond.classLink RX4 32 RX3, Cond.instantiable RX3 4, Cond.initialized RX3, Cond.fieldLink RX4 37 "OtherNames" "bridges" "LOtherNames$Rows;", Cond.fieldLink RX4 41 "OtherNames" "entries" "LOtherNames$Rows;", Cond.fieldLink RX4 44 "OtherNames" "today" "I", Cond.methodLink RX4 9 yX2_init, Cond.instanceMethod yX2_init, Cond.code yX2_init cX2_init 1 none]
def wsX4_init_r2 : List Cond := [Cond.methodLink RX2 3 objectInit, Cond.classLink RX2 9 RX3, Cond.fieldLink RX2 16 "OtherNames$People" "rows" "LOtherNames$Rows;", Cond.methodLink RX2 13 yX3_init, Cond.instanceMethod yX3_init, Cond.code yX3_init cX3_init 3 none, Cond.methodLink RX3 3 objectInit, Cond.methodLink RX3 9 Lib.Math.max.name, Cond.static Lib.Math.max.name, Cond.initialized "java/lang/Math", Cond.code Lib.Math.max.name Lib.Math.max.code 2 (some .int), Cond.fieldLink RX3 15 "OtherNames$Rows" "most" "I", Cond.fieldLink RX3 21 "OtherNames$Rows" "width" "I", Cond.arrayClass .int, Cond.fieldLink RX3 24 "OtherNames$Rows" "cells" "[I", Cond.fieldLink RX3 28 "OtherNames$Rows" "size" "I", Cond.methodLink RX4 18 yX0_init, Cond.instanceMethod yX0_init, Cond.code yX0_init cX0_init 1 none, Cond.methodLink RX0 3 objectInit, Cond.classLink RX0 9 RX3, Cond.fieldLink RX0 16 "OtherNames$Houses" "rows" "LOtherNames$Rows;", Cond.methodLink RX0 13 yX3_init, Cond.methodLink RX4 25 yX1_init]
def wsX4_init_r3 : List Cond := [Cond.instanceMethod yX1_init, Cond.code yX1_init cX1_init 2 none, Cond.methodLink RX1 3 objectInit, Cond.classLink RX1 9 RX3, Cond.fieldLink RX1 16 "OtherNames$Names" "rows" "LOtherNames$Rows;", Cond.fieldLink RX1 20 "OtherNames$Names" "people" "LOtherNames$People;", Cond.methodLink RX1 13 yX3_init, Cond.methodLink RX4 34 yX3_init]
def wsX4_init : List Cond := .code yX4_init cX4_init 1 none :: ((wsX4_init_r1 ++ (wsX4_init_r2 ++ wsX4_init_r3)) ++ wsX20 ++ wsX40 ++ wsX00 ++ wsX10 ++ wsX30)
def wsX4_person_r1 : List Cond := [Cond.fieldLink RX4 10 "OtherNames" "people" "LOtherNames$People;", Cond.methodLink RX4 48 yX2_add, Cond.instanceMethod yX2_add, Cond.selects RX2 yX2_add yX2_add, Cond.initialized RX2, Cond.code yX2_add cX2_add 6 (some .int), Cond.fieldLink RX2 16 "OtherNames$People" "rows" "LOtherNames$Rows;", Cond.methodLink RX2 28 yX2_isMarkNumber, Cond.static yX2_isMarkNumber, Cond.code yX2_isMarkNumber cX2_isMarkNumber 1 (some .boolean), Cond.methodLink RX2 31 yX3_addRow, Cond.instanceMethod yX3_addRow, Cond.selects RX3 yX3_addRow yX3_addRow, Cond.initialized RX3, Cond.code yX3_addRow cX3_addRow 1 (some .int), Cond.fieldLink RX3 28 "OtherNames$Rows" "size" "I", Cond.methodLink RX3 31 yX3_isFull, Cond.instanceMethod yX3_isFull, Cond.selects RX3 yX3_isFull yX3_isFull, Cond.code yX3_isFull cX3_isFull 1 (some .boolean), Cond.fieldLink RX3 15 "OtherNames$Rows" "most" "I", Cond.methodLink RX2 34 yX3_put, Cond.instanceMethod yX3_put, Cond.selects RX3 yX3_put yX3_put]
def wsX4_person_r2 : List Cond := [Cond.code yX3_put cX3_put 4 none, Cond.fieldLink RX3 24 "OtherNames$Rows" "cells" "[I", Cond.fieldLink RX3 21 "OtherNames$Rows" "width" "I", Cond.methodLink RX3 35 yX3_hasCell, Cond.instanceMethod yX3_hasCell, Cond.selects RX3 yX3_hasCell yX3_hasCell, Cond.code yX3_hasCell cX3_hasCell 3 (some .boolean)]
def wsX4_person : List Cond := .code yX4_person cX4_person 5 (some .int) :: ((wsX4_person_r1 ++ wsX4_person_r2) ++ wsX40 ++ wsX20 ++ wsX30)
def wsX4_mark_r1 : List Cond := [Cond.fieldLink RX4 10 "OtherNames" "people" "LOtherNames$People;", Cond.methodLink RX4 52 yX2_setMark, Cond.instanceMethod yX2_setMark, Cond.selects RX2 yX2_setMark yX2_setMark, Cond.initialized RX2, Cond.code yX2_setMark cX2_setMark 4 (some .boolean), Cond.fieldLink RX2 16 "OtherNames$People" "rows" "LOtherNames$Rows;", Cond.methodLink RX2 38 yX2_isThere, Cond.instanceMethod yX2_isThere, Cond.selects RX2 yX2_isThere yX2_isThere, Cond.code yX2_isThere cX2_isThere 2 (some .boolean), Cond.methodLink RX2 24 yX3_isThere, Cond.instanceMethod yX3_isThere, Cond.selects RX3 yX3_isThere yX3_isThere, Cond.initialized RX3, Cond.code yX3_isThere cX3_isThere 2 (some .boolean), Cond.fieldLink RX3 28 "OtherNames$Rows" "size" "I", Cond.methodLink RX2 39 yX2_isMark, Cond.static yX2_isMark, Cond.code yX2_isMark cX2_isMark 1 (some .boolean), Cond.methodLink RX2 28 yX2_isMarkNumber, Cond.static yX2_isMarkNumber, Cond.code yX2_isMarkNumber cX2_isMarkNumber 1 (some .boolean), Cond.methodLink RX2 34 yX3_put]
def wsX4_mark_r2 : List Cond := [Cond.instanceMethod yX3_put, Cond.selects RX3 yX3_put yX3_put, Cond.code yX3_put cX3_put 4 none, Cond.fieldLink RX3 24 "OtherNames$Rows" "cells" "[I", Cond.fieldLink RX3 21 "OtherNames$Rows" "width" "I", Cond.methodLink RX3 35 yX3_hasCell, Cond.instanceMethod yX3_hasCell, Cond.selects RX3 yX3_hasCell yX3_hasCell, Cond.code yX3_hasCell cX3_hasCell 3 (some .boolean)]
def wsX4_mark : List Cond := .code yX4_mark cX4_mark 4 (some .boolean) :: ((wsX4_mark_r1 ++ wsX4_mark_r2) ++ wsX40 ++ wsX20 ++ wsX30)
def wsX4_house_r1 : List Cond := [Cond.fieldLink RX4 19 "OtherNames" "houses" "LOtherNames$Houses;", Cond.methodLink RX4 56 yX0_add, Cond.instanceMethod yX0_add, Cond.selects RX0 yX0_add yX0_add, Cond.initialized RX0, Cond.code yX0_add cX0_add 7 (some .int), Cond.fieldLink RX0 16 "OtherNames$Houses" "rows" "LOtherNames$Rows;", Cond.methodLink RX0 28 yX3_addRow, Cond.instanceMethod yX3_addRow, Cond.selects RX3 yX3_addRow yX3_addRow, Cond.initialized RX3, Cond.code yX3_addRow cX3_addRow 1 (some .int), Cond.fieldLink RX3 28 "OtherNames$Rows" "size" "I", Cond.methodLink RX3 31 yX3_isFull, Cond.instanceMethod yX3_isFull, Cond.selects RX3 yX3_isFull yX3_isFull, Cond.code yX3_isFull cX3_isFull 1 (some .boolean), Cond.fieldLink RX3 15 "OtherNames$Rows" "most" "I", Cond.methodLink RX0 31 yX3_put, Cond.instanceMethod yX3_put, Cond.selects RX3 yX3_put yX3_put, Cond.code yX3_put cX3_put 4 none, Cond.fieldLink RX3 24 "OtherNames$Rows" "cells" "[I", Cond.fieldLink RX3 21 "OtherNames$Rows" "width" "I"]
def wsX4_house_r2 : List Cond := [Cond.methodLink RX3 35 yX3_hasCell, Cond.instanceMethod yX3_hasCell, Cond.selects RX3 yX3_hasCell yX3_hasCell, Cond.code yX3_hasCell cX3_hasCell 3 (some .boolean)]
def wsX4_house : List Cond := .code yX4_house cX4_house 6 (some .int) :: ((wsX4_house_r1 ++ wsX4_house_r2) ++ wsX40 ++ wsX00 ++ wsX30)
def wsX4_isDay : List Cond := .code yX4_isDay cX4_isDay 1 (some .boolean) :: ([])
def wsX4_day : List Cond := .code yX4_day cX4_day 2 (some .boolean) :: ([.fieldLink RX4 44 "OtherNames" "today" "I", .methodLink RX4 59 yX4_isDay, .static yX4_isDay, .initialized RX4, .code yX4_isDay cX4_isDay 1 (some .boolean)] ++ wsX40)
def wsX4_one_r1 : List Cond := [Cond.fieldLink RX4 10 "OtherNames" "people" "LOtherNames$People;", Cond.methodLink RX4 63 yX2_join, Cond.instanceMethod yX2_join, Cond.selects RX2 yX2_join yX2_join, Cond.initialized RX2, Cond.code yX2_join cX2_join 3 (some .boolean), Cond.fieldLink RX2 16 "OtherNames$People" "rows" "LOtherNames$Rows;", Cond.methodLink RX2 46 yX2_isHead, Cond.instanceMethod yX2_isHead, Cond.selects RX2 yX2_isHead yX2_isHead, Cond.code yX2_isHead cX2_isHead 2 (some .boolean), Cond.methodLink RX2 38 yX2_isThere, Cond.instanceMethod yX2_isThere, Cond.selects RX2 yX2_isThere yX2_isThere, Cond.code yX2_isThere cX2_isThere 2 (some .boolean), Cond.methodLink RX2 24 yX3_isThere, Cond.instanceMethod yX3_isThere, Cond.selects RX3 yX3_isThere yX3_isThere, Cond.initialized RX3, Cond.code yX3_isThere cX3_isThere 2 (some .boolean), Cond.fieldLink RX3 28 "OtherNames$Rows" "size" "I", Cond.methodLink RX2 56 yX2_holderOf, Cond.instanceMethod yX2_holderOf, Cond.selects RX2 yX2_holderOf yX2_holderOf]
def wsX4_one_r2 : List Cond := [Cond.code yX2_holderOf cX2_holderOf 2 (some .int), Cond.methodLink RX2 42 yX3_at, Cond.instanceMethod yX3_at, Cond.selects RX3 yX3_at yX3_at, Cond.code yX3_at cX3_at 3 (some .int), Cond.fieldLink RX3 24 "OtherNames$Rows" "cells" "[I", Cond.fieldLink RX3 21 "OtherNames$Rows" "width" "I", Cond.methodLink RX3 35 yX3_hasCell, Cond.instanceMethod yX3_hasCell, Cond.selects RX3 yX3_hasCell yX3_hasCell, Cond.code yX3_hasCell cX3_hasCell 3 (some .boolean), Cond.methodLink RX2 34 yX3_put, Cond.instanceMethod yX3_put, Cond.selects RX3 yX3_put yX3_put, Cond.code yX3_put cX3_put 4 none, Cond.methodLink RX2 49 yX2_isStruckOut, Cond.instanceMethod yX2_isStruckOut, Cond.selects RX2 yX2_isStruckOut yX2_isStruckOut, Cond.code yX2_isStruckOut cX2_isStruckOut 2 (some .boolean), Cond.methodLink RX2 52 yX2_strikeOutAllUnder, Cond.instanceMethod yX2_strikeOutAllUnder, Cond.selects RX2 yX2_strikeOutAllUnder yX2_strikeOutAllUnder, Cond.code yX2_strikeOutAllUnder cX2_strikeOutAllUnder 3 none, Cond.methodLink RX2 60 yX2_headOf]
def wsX4_one_r3 : List Cond := [Cond.instanceMethod yX2_headOf, Cond.selects RX2 yX2_headOf yX2_headOf, Cond.code yX2_headOf cX2_headOf 4 (some .int)]
def wsX4_one : List Cond := .code yX4_one cX4_one 3 (some .boolean) :: ((wsX4_one_r1 ++ (wsX4_one_r2 ++ wsX4_one_r3)) ++ wsX40 ++ wsX20 ++ wsX30)
def wsX4_part_r1 : List Cond := [Cond.fieldLink RX4 10 "OtherNames" "people" "LOtherNames$People;", Cond.methodLink RX4 67 yX2_leave, Cond.instanceMethod yX2_leave, Cond.selects RX2 yX2_leave yX2_leave, Cond.initialized RX2, Cond.code yX2_leave cX2_leave 2 (some .boolean), Cond.fieldLink RX2 16 "OtherNames$People" "rows" "LOtherNames$Rows;", Cond.methodLink RX2 56 yX2_holderOf, Cond.instanceMethod yX2_holderOf, Cond.selects RX2 yX2_holderOf yX2_holderOf, Cond.code yX2_holderOf cX2_holderOf 2 (some .int), Cond.methodLink RX2 42 yX3_at, Cond.instanceMethod yX3_at, Cond.selects RX3 yX3_at yX3_at, Cond.initialized RX3, Cond.code yX3_at cX3_at 3 (some .int), Cond.fieldLink RX3 24 "OtherNames$Rows" "cells" "[I", Cond.fieldLink RX3 21 "OtherNames$Rows" "width" "I", Cond.methodLink RX3 35 yX3_hasCell, Cond.instanceMethod yX3_hasCell, Cond.selects RX3 yX3_hasCell yX3_hasCell, Cond.code yX3_hasCell cX3_hasCell 3 (some .boolean), Cond.fieldLink RX3 28 "OtherNames$Rows" "size" "I", Cond.methodLink RX2 34 yX3_put]
def wsX4_part_r2 : List Cond := [Cond.instanceMethod yX3_put, Cond.selects RX3 yX3_put yX3_put, Cond.code yX3_put cX3_put 4 none]
def wsX4_part : List Cond := .code yX4_part cX4_part 2 (some .boolean) :: ((wsX4_part_r1 ++ wsX4_part_r2) ++ wsX40 ++ wsX20 ++ wsX30)
def wsX4_strike_r1 : List Cond := [Cond.fieldLink RX4 10 "OtherNames" "people" "LOtherNames$People;", Cond.methodLink RX4 70 yX2_strikeOut, Cond.instanceMethod yX2_strikeOut, Cond.selects RX2 yX2_strikeOut yX2_strikeOut, Cond.initialized RX2, Cond.code yX2_strikeOut cX2_strikeOut 2 (some .boolean), Cond.methodLink RX2 38 yX2_isThere, Cond.instanceMethod yX2_isThere, Cond.selects RX2 yX2_isThere yX2_isThere, Cond.code yX2_isThere cX2_isThere 2 (some .boolean), Cond.fieldLink RX2 16 "OtherNames$People" "rows" "LOtherNames$Rows;", Cond.methodLink RX2 24 yX3_isThere, Cond.instanceMethod yX3_isThere, Cond.selects RX3 yX3_isThere yX3_isThere, Cond.initialized RX3, Cond.code yX3_isThere cX3_isThere 2 (some .boolean), Cond.fieldLink RX3 28 "OtherNames$Rows" "size" "I", Cond.methodLink RX2 49 yX2_isStruckOut, Cond.instanceMethod yX2_isStruckOut, Cond.selects RX2 yX2_isStruckOut yX2_isStruckOut, Cond.code yX2_isStruckOut cX2_isStruckOut 2 (some .boolean), Cond.methodLink RX2 42 yX3_at, Cond.instanceMethod yX3_at, Cond.selects RX3 yX3_at yX3_at]
def wsX4_strike_r2 : List Cond := [Cond.code yX3_at cX3_at 3 (some .int), Cond.fieldLink RX3 24 "OtherNames$Rows" "cells" "[I", Cond.fieldLink RX3 21 "OtherNames$Rows" "width" "I", Cond.methodLink RX3 35 yX3_hasCell, Cond.instanceMethod yX3_hasCell, Cond.selects RX3 yX3_hasCell yX3_hasCell, Cond.code yX3_hasCell cX3_hasCell 3 (some .boolean), Cond.methodLink RX2 60 yX2_headOf, Cond.instanceMethod yX2_headOf, Cond.selects RX2 yX2_headOf yX2_headOf, Cond.code yX2_headOf cX2_headOf 4 (some .int), Cond.methodLink RX2 52 yX2_strikeOutAllUnder, Cond.instanceMethod yX2_strikeOutAllUnder, Cond.selects RX2 yX2_strikeOutAllUnder yX2_strikeOutAllUnder, Cond.code yX2_strikeOutAllUnder cX2_strikeOutAllUnder 3 none, Cond.methodLink RX2 34 yX3_put, Cond.instanceMethod yX3_put, Cond.selects RX3 yX3_put yX3_put, Cond.code yX3_put cX3_put 4 none]
def wsX4_strike : List Cond := .code yX4_strike cX4_strike 2 (some .boolean) :: ((wsX4_strike_r1 ++ wsX4_strike_r2) ++ wsX40 ++ wsX20 ++ wsX30)
def wsX4_nameIn_r1 : List Cond := [Cond.fieldLink RX4 28 "OtherNames" "names" "LOtherNames$Names;", Cond.fieldLink RX4 19 "OtherNames" "houses" "LOtherNames$Houses;", Cond.fieldLink RX4 44 "OtherNames" "today" "I", Cond.fieldLink RX4 10 "OtherNames" "people" "LOtherNames$People;", Cond.methodLink RX4 199 yX1_countGivenBy, Cond.instanceMethod yX1_countGivenBy, Cond.selects RX1 yX1_countGivenBy yX1_countGivenBy, Cond.initialized RX1, Cond.code yX1_countGivenBy cX1_countGivenBy 2 (some .int), Cond.methodLink RX1 58 yX1_countWith, Cond.instanceMethod yX1_countWith, Cond.selects RX1 yX1_countWith yX1_countWith, Cond.code yX1_countWith cX1_countWith 5 (some .int), Cond.fieldLink RX1 16 "OtherNames$Names" "rows" "LOtherNames$Rows;", Cond.methodLink RX1 24 yX3_size, Cond.instanceMethod yX3_size, Cond.selects RX3 yX3_size yX3_size, Cond.initialized RX3, Cond.code yX3_size cX3_size 1 (some .int), Cond.fieldLink RX3 28 "OtherNames$Rows" "size" "I", Cond.methodLink RX1 28 yX3_at, Cond.instanceMethod yX3_at, Cond.selects RX3 yX3_at yX3_at, Cond.code yX3_at cX3_at 3 (some .int)]
def wsX4_nameIn_r2 : List Cond := [Cond.fieldLink RX3 24 "OtherNames$Rows" "cells" "[I", Cond.fieldLink RX3 21 "OtherNames$Rows" "width" "I", Cond.methodLink RX3 35 yX3_hasCell, Cond.instanceMethod yX3_hasCell, Cond.selects RX3 yX3_hasCell yX3_hasCell, Cond.code yX3_hasCell cX3_hasCell 3 (some .boolean), Cond.methodLink RX4 202 yX0_spanNumber, Cond.instanceMethod yX0_spanNumber, Cond.selects RX0 yX0_spanNumber yX0_spanNumber, Cond.initialized RX0, Cond.code yX0_spanNumber cX0_spanNumber 5 (some .int), Cond.fieldLink RX0 16 "OtherNames$Houses" "rows" "LOtherNames$Rows;", Cond.methodLink RX0 35 yX3_at, Cond.methodLink RX0 43 yX0_isSpanned, Cond.instanceMethod yX0_isSpanned, Cond.selects RX0 yX0_isSpanned yX0_isSpanned, Cond.code yX0_isSpanned cX0_isSpanned 2 (some .boolean), Cond.methodLink RX4 178 yX2_headOf, Cond.instanceMethod yX2_headOf, Cond.selects RX2 yX2_headOf yX2_headOf, Cond.initialized RX2, Cond.code yX2_headOf cX2_headOf 4 (some .int), Cond.fieldLink RX2 16 "OtherNames$People" "rows" "LOtherNames$Rows;", Cond.methodLink RX2 42 yX3_at]
def wsX4_nameIn_r3 : List Cond := [Cond.methodLink RX4 205 yX1_firstFor, Cond.instanceMethod yX1_firstFor, Cond.selects RX1 yX1_firstFor yX1_firstFor, Cond.code yX1_firstFor cX1_firstFor 6 (some .int), Cond.fieldLink RX1 20 "OtherNames$Names" "people" "LOtherNames$People;", Cond.methodLink RX1 43 yX1_spanNumberAt, Cond.instanceMethod yX1_spanNumberAt, Cond.selects RX1 yX1_spanNumberAt yX1_spanNumberAt, Cond.code yX1_spanNumberAt cX1_spanNumberAt 2 (some .int), Cond.methodLink RX1 46 yX1_ownerAt, Cond.instanceMethod yX1_ownerAt, Cond.selects RX1 yX1_ownerAt yX1_ownerAt, Cond.code yX1_ownerAt cX1_ownerAt 2 (some .int), Cond.methodLink RX1 49 yX2_headOf, Cond.methodLink RX4 208 yX0_nameNumber, Cond.instanceMethod yX0_nameNumber, Cond.selects RX0 yX0_nameNumber yX0_nameNumber, Cond.code yX0_nameNumber cX0_nameNumber 3 (some .int), Cond.methodLink RX0 39 yX0_seedOf, Cond.instanceMethod yX0_seedOf, Cond.selects RX0 yX0_seedOf yX0_seedOf, Cond.code yX0_seedOf cX0_seedOf 2 (some .int), Cond.methodLink RX4 211 yX1_add, Cond.instanceMethod yX1_add]
def wsX4_nameIn_r4 : List Cond := [Cond.selects RX1 yX1_add yX1_add, Cond.code yX1_add cX1_add 7 (some .int), Cond.methodLink RX1 32 yX3_addRow, Cond.instanceMethod yX3_addRow, Cond.selects RX3 yX3_addRow yX3_addRow, Cond.code yX3_addRow cX3_addRow 1 (some .int), Cond.methodLink RX3 31 yX3_isFull, Cond.instanceMethod yX3_isFull, Cond.selects RX3 yX3_isFull yX3_isFull, Cond.code yX3_isFull cX3_isFull 1 (some .boolean), Cond.fieldLink RX3 15 "OtherNames$Rows" "most" "I", Cond.methodLink RX1 35 yX3_put, Cond.instanceMethod yX3_put, Cond.selects RX3 yX3_put yX3_put, Cond.code yX3_put cX3_put 4 none, Cond.methodLink RX4 91 yX1_nameAt, Cond.instanceMethod yX1_nameAt, Cond.selects RX1 yX1_nameAt yX1_nameAt, Cond.code yX1_nameAt cX1_nameAt 2 (some .int)]
def wsX4_nameIn : List Cond := .code yX4_nameIn cX4_nameIn 7 (some .int) :: ((wsX4_nameIn_r1 ++ (wsX4_nameIn_r2 ++ (wsX4_nameIn_r3 ++ wsX4_nameIn_r4))) ++ wsX40 ++ wsX10 ++ wsX30 ++ wsX00 ++ wsX20)
def wsX4_name_r1 : List Cond := [Cond.fieldLink RX4 19 "OtherNames" "houses" "LOtherNames$Houses;", Cond.fieldLink RX4 10 "OtherNames" "people" "LOtherNames$People;", Cond.methodLink RX4 73 yX0_isThere, Cond.instanceMethod yX0_isThere, Cond.selects RX0 yX0_isThere yX0_isThere, Cond.initialized RX0, Cond.code yX0_isThere cX0_isThere 2 (some .boolean), Cond.fieldLink RX0 16 "OtherNames$Houses" "rows" "LOtherNames$Rows;", Cond.methodLink RX0 24 yX3_isThere, Cond.instanceMethod yX3_isThere, Cond.selects RX3 yX3_isThere yX3_isThere, Cond.initialized RX3, Cond.code yX3_isThere cX3_isThere 2 (some .boolean), Cond.fieldLink RX3 28 "OtherNames$Rows" "size" "I", Cond.methodLink RX4 76 yX2_isThere, Cond.instanceMethod yX2_isThere, Cond.selects RX2 yX2_isThere yX2_isThere, Cond.initialized RX2, Cond.code yX2_isThere cX2_isThere 2 (some .boolean), Cond.fieldLink RX2 16 "OtherNames$People" "rows" "LOtherNames$Rows;", Cond.methodLink RX2 24 yX3_isThere, Cond.methodLink RX4 77 yX2_isStruckOut, Cond.instanceMethod yX2_isStruckOut, Cond.selects RX2 yX2_isStruckOut yX2_isStruckOut]
def wsX4_name_r2 : List Cond := [Cond.code yX2_isStruckOut cX2_isStruckOut 2 (some .boolean), Cond.methodLink RX2 42 yX3_at, Cond.instanceMethod yX3_at, Cond.selects RX3 yX3_at yX3_at, Cond.code yX3_at cX3_at 3 (some .int), Cond.fieldLink RX3 24 "OtherNames$Rows" "cells" "[I", Cond.fieldLink RX3 21 "OtherNames$Rows" "width" "I", Cond.methodLink RX3 35 yX3_hasCell, Cond.instanceMethod yX3_hasCell, Cond.selects RX3 yX3_hasCell yX3_hasCell, Cond.code yX3_hasCell cX3_hasCell 3 (some .boolean), Cond.methodLink RX4 80 yX4_nameIn, Cond.instanceMethod yX4_nameIn, Cond.selects RX4 yX4_nameIn yX4_nameIn, Cond.initialized RX4, Cond.code yX4_nameIn cX4_nameIn 7 (some .int), Cond.fieldLink RX4 28 "OtherNames" "names" "LOtherNames$Names;", Cond.fieldLink RX4 44 "OtherNames" "today" "I", Cond.methodLink RX4 199 yX1_countGivenBy, Cond.instanceMethod yX1_countGivenBy, Cond.selects RX1 yX1_countGivenBy yX1_countGivenBy, Cond.initialized RX1, Cond.code yX1_countGivenBy cX1_countGivenBy 2 (some .int), Cond.methodLink RX1 58 yX1_countWith]
def wsX4_name_r3 : List Cond := [Cond.instanceMethod yX1_countWith, Cond.selects RX1 yX1_countWith yX1_countWith, Cond.code yX1_countWith cX1_countWith 5 (some .int), Cond.fieldLink RX1 16 "OtherNames$Names" "rows" "LOtherNames$Rows;", Cond.methodLink RX1 24 yX3_size, Cond.instanceMethod yX3_size, Cond.selects RX3 yX3_size yX3_size, Cond.code yX3_size cX3_size 1 (some .int), Cond.methodLink RX1 28 yX3_at, Cond.methodLink RX4 202 yX0_spanNumber, Cond.instanceMethod yX0_spanNumber, Cond.selects RX0 yX0_spanNumber yX0_spanNumber, Cond.code yX0_spanNumber cX0_spanNumber 5 (some .int), Cond.methodLink RX0 35 yX3_at, Cond.methodLink RX0 43 yX0_isSpanned, Cond.instanceMethod yX0_isSpanned, Cond.selects RX0 yX0_isSpanned yX0_isSpanned, Cond.code yX0_isSpanned cX0_isSpanned 2 (some .boolean), Cond.methodLink RX4 178 yX2_headOf, Cond.instanceMethod yX2_headOf, Cond.selects RX2 yX2_headOf yX2_headOf, Cond.code yX2_headOf cX2_headOf 4 (some .int), Cond.methodLink RX4 205 yX1_firstFor, Cond.instanceMethod yX1_firstFor]
def wsX4_name_r4 : List Cond := [Cond.selects RX1 yX1_firstFor yX1_firstFor, Cond.code yX1_firstFor cX1_firstFor 6 (some .int), Cond.fieldLink RX1 20 "OtherNames$Names" "people" "LOtherNames$People;", Cond.methodLink RX1 43 yX1_spanNumberAt, Cond.instanceMethod yX1_spanNumberAt, Cond.selects RX1 yX1_spanNumberAt yX1_spanNumberAt, Cond.code yX1_spanNumberAt cX1_spanNumberAt 2 (some .int), Cond.methodLink RX1 46 yX1_ownerAt, Cond.instanceMethod yX1_ownerAt, Cond.selects RX1 yX1_ownerAt yX1_ownerAt, Cond.code yX1_ownerAt cX1_ownerAt 2 (some .int), Cond.methodLink RX1 49 yX2_headOf, Cond.methodLink RX4 208 yX0_nameNumber, Cond.instanceMethod yX0_nameNumber, Cond.selects RX0 yX0_nameNumber yX0_nameNumber, Cond.code yX0_nameNumber cX0_nameNumber 3 (some .int), Cond.methodLink RX0 39 yX0_seedOf, Cond.instanceMethod yX0_seedOf, Cond.selects RX0 yX0_seedOf yX0_seedOf, Cond.code yX0_seedOf cX0_seedOf 2 (some .int), Cond.methodLink RX4 211 yX1_add, Cond.instanceMethod yX1_add, Cond.selects RX1 yX1_add yX1_add, Cond.code yX1_add cX1_add 7 (some .int)]
def wsX4_name_r5 : List Cond := [Cond.methodLink RX1 32 yX3_addRow, Cond.instanceMethod yX3_addRow, Cond.selects RX3 yX3_addRow yX3_addRow, Cond.code yX3_addRow cX3_addRow 1 (some .int), Cond.methodLink RX3 31 yX3_isFull, Cond.instanceMethod yX3_isFull, Cond.selects RX3 yX3_isFull yX3_isFull, Cond.code yX3_isFull cX3_isFull 1 (some .boolean), Cond.fieldLink RX3 15 "OtherNames$Rows" "most" "I", Cond.methodLink RX1 35 yX3_put, Cond.instanceMethod yX3_put, Cond.selects RX3 yX3_put yX3_put, Cond.code yX3_put cX3_put 4 none, Cond.methodLink RX4 91 yX1_nameAt, Cond.instanceMethod yX1_nameAt, Cond.selects RX1 yX1_nameAt yX1_nameAt, Cond.code yX1_nameAt cX1_nameAt 2 (some .int)]
def wsX4_name : List Cond := .code yX4_name cX4_name 3 (some .int) :: ((wsX4_name_r1 ++ (wsX4_name_r2 ++ (wsX4_name_r3 ++ (wsX4_name_r4 ++ wsX4_name_r5)))) ++ wsX40 ++ wsX00 ++ wsX30 ++ wsX20 ++ wsX10)
def wsX4_leads_r1 : List Cond := [Cond.fieldLink RX4 28 "OtherNames" "names" "LOtherNames$Names;", Cond.methodLink RX4 84 yX1_find, Cond.instanceMethod yX1_find, Cond.selects RX1 yX1_find yX1_find, Cond.initialized RX1, Cond.code yX1_find cX1_find 4 (some .int), Cond.fieldLink RX1 16 "OtherNames$Names" "rows" "LOtherNames$Rows;", Cond.methodLink RX1 24 yX3_size, Cond.instanceMethod yX3_size, Cond.selects RX3 yX3_size yX3_size, Cond.initialized RX3, Cond.code yX3_size cX3_size 1 (some .int), Cond.fieldLink RX3 28 "OtherNames$Rows" "size" "I", Cond.methodLink RX1 28 yX3_at, Cond.instanceMethod yX3_at, Cond.selects RX3 yX3_at yX3_at, Cond.code yX3_at cX3_at 3 (some .int), Cond.fieldLink RX3 24 "OtherNames$Rows" "cells" "[I", Cond.fieldLink RX3 21 "OtherNames$Rows" "width" "I", Cond.methodLink RX3 35 yX3_hasCell, Cond.instanceMethod yX3_hasCell, Cond.selects RX3 yX3_hasCell yX3_hasCell, Cond.code yX3_hasCell cX3_hasCell 3 (some .boolean), Cond.methodLink RX1 39 yX1_nameAt]
def wsX4_leads_r2 : List Cond := [Cond.instanceMethod yX1_nameAt, Cond.selects RX1 yX1_nameAt yX1_nameAt, Cond.code yX1_nameAt cX1_nameAt 2 (some .int), Cond.methodLink RX4 87 yX1_leadsTo, Cond.instanceMethod yX1_leadsTo, Cond.selects RX1 yX1_leadsTo yX1_leadsTo, Cond.code yX1_leadsTo cX1_leadsTo 2 (some .int), Cond.fieldLink RX1 20 "OtherNames$Names" "people" "LOtherNames$People;", Cond.methodLink RX1 43 yX1_spanNumberAt, Cond.instanceMethod yX1_spanNumberAt, Cond.selects RX1 yX1_spanNumberAt yX1_spanNumberAt, Cond.code yX1_spanNumberAt cX1_spanNumberAt 2 (some .int), Cond.methodLink RX1 46 yX1_ownerAt, Cond.instanceMethod yX1_ownerAt, Cond.selects RX1 yX1_ownerAt yX1_ownerAt, Cond.code yX1_ownerAt cX1_ownerAt 2 (some .int), Cond.methodLink RX1 49 yX2_headOf, Cond.instanceMethod yX2_headOf, Cond.selects RX2 yX2_headOf yX2_headOf, Cond.initialized RX2, Cond.code yX2_headOf cX2_headOf 4 (some .int), Cond.fieldLink RX2 16 "OtherNames$People" "rows" "LOtherNames$Rows;", Cond.methodLink RX2 42 yX3_at, Cond.methodLink RX1 54 yX1_firstFor]
def wsX4_leads_r3 : List Cond := [Cond.instanceMethod yX1_firstFor, Cond.selects RX1 yX1_firstFor yX1_firstFor, Cond.code yX1_firstFor cX1_firstFor 6 (some .int), Cond.methodLink RX4 91 yX1_nameAt]
def wsX4_leads : List Cond := .code yX4_leads cX4_leads 4 (some .int) :: ((wsX4_leads_r1 ++ (wsX4_leads_r2 ++ wsX4_leads_r3)) ++ wsX40 ++ wsX10 ++ wsX30 ++ wsX20)
def wsX4_areTwoHouses : List Cond := .code yX4_areTwoHouses cX4_areTwoHouses 3 (some .boolean) :: ([.fieldLink RX4 19 "OtherNames" "houses" "LOtherNames$Houses;", .methodLink RX4 73 yX0_isThere, .instanceMethod yX0_isThere, .selects RX0 yX0_isThere yX0_isThere, .initialized RX0, .code yX0_isThere cX0_isThere 2 (some .boolean), .fieldLink RX0 16 "OtherNames$Houses" "rows" "LOtherNames$Rows;", .methodLink RX0 24 yX3_isThere, .instanceMethod yX3_isThere, .selects RX3 yX3_isThere yX3_isThere, .initialized RX3, .code yX3_isThere cX3_isThere 2 (some .boolean), .fieldLink RX3 28 "OtherNames$Rows" "size" "I"] ++ wsX40 ++ wsX00 ++ wsX30)
def wsX4_bridge_r1 : List Cond := [Cond.fieldLink RX4 37 "OtherNames" "bridges" "LOtherNames$Rows;", Cond.methodLink RX4 94 yX4_areTwoHouses, Cond.instanceMethod yX4_areTwoHouses, Cond.selects RX4 yX4_areTwoHouses yX4_areTwoHouses, Cond.initialized RX4, Cond.code yX4_areTwoHouses cX4_areTwoHouses 3 (some .boolean), Cond.fieldLink RX4 19 "OtherNames" "houses" "LOtherNames$Houses;", Cond.methodLink RX4 73 yX0_isThere, Cond.instanceMethod yX0_isThere, Cond.selects RX0 yX0_isThere yX0_isThere, Cond.initialized RX0, Cond.code yX0_isThere cX0_isThere 2 (some .boolean), Cond.fieldLink RX0 16 "OtherNames$Houses" "rows" "LOtherNames$Rows;", Cond.methodLink RX0 24 yX3_isThere, Cond.instanceMethod yX3_isThere, Cond.selects RX3 yX3_isThere yX3_isThere, Cond.initialized RX3, Cond.code yX3_isThere cX3_isThere 2 (some .boolean), Cond.fieldLink RX3 28 "OtherNames$Rows" "size" "I", Cond.methodLink RX4 59 yX4_isDay, Cond.static yX4_isDay, Cond.code yX4_isDay cX4_isDay 1 (some .boolean), Cond.methodLink RX4 97 yX3_addRow, Cond.instanceMethod yX3_addRow]
def wsX4_bridge_r2 : List Cond := [Cond.selects RX3 yX3_addRow yX3_addRow, Cond.code yX3_addRow cX3_addRow 1 (some .int), Cond.methodLink RX3 31 yX3_isFull, Cond.instanceMethod yX3_isFull, Cond.selects RX3 yX3_isFull yX3_isFull, Cond.code yX3_isFull cX3_isFull 1 (some .boolean), Cond.fieldLink RX3 15 "OtherNames$Rows" "most" "I", Cond.methodLink RX4 101 yX3_put, Cond.instanceMethod yX3_put, Cond.selects RX3 yX3_put yX3_put, Cond.code yX3_put cX3_put 4 none, Cond.fieldLink RX3 24 "OtherNames$Rows" "cells" "[I", Cond.fieldLink RX3 21 "OtherNames$Rows" "width" "I", Cond.methodLink RX3 35 yX3_hasCell, Cond.instanceMethod yX3_hasCell, Cond.selects RX3 yX3_hasCell yX3_hasCell, Cond.code yX3_hasCell cX3_hasCell 3 (some .boolean)]
def wsX4_bridge : List Cond := .code yX4_bridge cX4_bridge 6 (some .boolean) :: ((wsX4_bridge_r1 ++ wsX4_bridge_r2) ++ wsX40 ++ wsX00 ++ wsX30)
def wsX4_isBridged : List Cond := .code yX4_isBridged cX4_isBridged 6 (some .boolean) :: ([.fieldLink RX4 37 "OtherNames" "bridges" "LOtherNames$Rows;", .methodLink RX4 195 yX3_size, .instanceMethod yX3_size, .selects RX3 yX3_size yX3_size, .initialized RX3, .code yX3_size cX3_size 1 (some .int), .fieldLink RX3 28 "OtherNames$Rows" "size" "I", .methodLink RX4 172 yX3_at, .instanceMethod yX3_at, .selects RX3 yX3_at yX3_at, .code yX3_at cX3_at 3 (some .int), .fieldLink RX3 24 "OtherNames$Rows" "cells" "[I", .fieldLink RX3 21 "OtherNames$Rows" "width" "I", .methodLink RX3 35 yX3_hasCell, .instanceMethod yX3_hasCell, .selects RX3 yX3_hasCell yX3_hasCell, .code yX3_hasCell cX3_hasCell 3 (some .boolean)] ++ wsX40 ++ wsX30)
def wsX4_oneIf : List Cond := .code yX4_oneIf cX4_oneIf 1 (some .int) :: ([])
def wsX4_holds_r1 : List Cond := [Cond.methodLink RX4 94 yX4_areTwoHouses, Cond.instanceMethod yX4_areTwoHouses, Cond.selects RX4 yX4_areTwoHouses yX4_areTwoHouses, Cond.initialized RX4, Cond.code yX4_areTwoHouses cX4_areTwoHouses 3 (some .boolean), Cond.fieldLink RX4 19 "OtherNames" "houses" "LOtherNames$Houses;", Cond.methodLink RX4 73 yX0_isThere, Cond.instanceMethod yX0_isThere, Cond.selects RX0 yX0_isThere yX0_isThere, Cond.initialized RX0, Cond.code yX0_isThere cX0_isThere 2 (some .boolean), Cond.fieldLink RX0 16 "OtherNames$Houses" "rows" "LOtherNames$Rows;", Cond.methodLink RX0 24 yX3_isThere, Cond.instanceMethod yX3_isThere, Cond.selects RX3 yX3_isThere yX3_isThere, Cond.initialized RX3, Cond.code yX3_isThere cX3_isThere 2 (some .boolean), Cond.fieldLink RX3 28 "OtherNames$Rows" "size" "I", Cond.methodLink RX4 59 yX4_isDay, Cond.static yX4_isDay, Cond.code yX4_isDay cX4_isDay 1 (some .boolean), Cond.methodLink RX4 105 yX4_isBridged, Cond.instanceMethod yX4_isBridged, Cond.selects RX4 yX4_isBridged yX4_isBridged]
def wsX4_holds_r2 : List Cond := [Cond.code yX4_isBridged cX4_isBridged 6 (some .boolean), Cond.fieldLink RX4 37 "OtherNames" "bridges" "LOtherNames$Rows;", Cond.methodLink RX4 195 yX3_size, Cond.instanceMethod yX3_size, Cond.selects RX3 yX3_size yX3_size, Cond.code yX3_size cX3_size 1 (some .int), Cond.methodLink RX4 172 yX3_at, Cond.instanceMethod yX3_at, Cond.selects RX3 yX3_at yX3_at, Cond.code yX3_at cX3_at 3 (some .int), Cond.fieldLink RX3 24 "OtherNames$Rows" "cells" "[I", Cond.fieldLink RX3 21 "OtherNames$Rows" "width" "I", Cond.methodLink RX3 35 yX3_hasCell, Cond.instanceMethod yX3_hasCell, Cond.selects RX3 yX3_hasCell yX3_hasCell, Cond.code yX3_hasCell cX3_hasCell 3 (some .boolean), Cond.methodLink RX4 108 yX4_oneIf, Cond.static yX4_oneIf, Cond.code yX4_oneIf cX4_oneIf 1 (some .int)]
def wsX4_holds : List Cond := .code yX4_holds cX4_holds 4 (some .int) :: ((wsX4_holds_r1 ++ wsX4_holds_r2) ++ wsX40 ++ wsX00 ++ wsX30)
def wsX4_isHand : List Cond := .code yX4_isHand cX4_isHand 1 (some .boolean) :: ([])
def wsX4_crossWith_r1 : List Cond := [Cond.fieldLink RX4 28 "OtherNames" "names" "LOtherNames$Names;", Cond.fieldLink RX4 19 "OtherNames" "houses" "LOtherNames$Houses;", Cond.fieldLink RX4 44 "OtherNames" "today" "I", Cond.fieldLink RX4 10 "OtherNames" "people" "LOtherNames$People;", Cond.methodLink RX4 84 yX1_find, Cond.instanceMethod yX1_find, Cond.selects RX1 yX1_find yX1_find, Cond.initialized RX1, Cond.code yX1_find cX1_find 4 (some .int), Cond.fieldLink RX1 16 "OtherNames$Names" "rows" "LOtherNames$Rows;", Cond.methodLink RX1 24 yX3_size, Cond.instanceMethod yX3_size, Cond.selects RX3 yX3_size yX3_size, Cond.initialized RX3, Cond.code yX3_size cX3_size 1 (some .int), Cond.fieldLink RX3 28 "OtherNames$Rows" "size" "I", Cond.methodLink RX1 28 yX3_at, Cond.instanceMethod yX3_at, Cond.selects RX3 yX3_at yX3_at, Cond.code yX3_at cX3_at 3 (some .int), Cond.fieldLink RX3 24 "OtherNames$Rows" "cells" "[I", Cond.fieldLink RX3 21 "OtherNames$Rows" "width" "I", Cond.methodLink RX3 35 yX3_hasCell, Cond.instanceMethod yX3_hasCell]
def wsX4_crossWith_r2 : List Cond := [Cond.selects RX3 yX3_hasCell yX3_hasCell, Cond.code yX3_hasCell cX3_hasCell 3 (some .boolean), Cond.methodLink RX1 39 yX1_nameAt, Cond.instanceMethod yX1_nameAt, Cond.selects RX1 yX1_nameAt yX1_nameAt, Cond.code yX1_nameAt cX1_nameAt 2 (some .int), Cond.methodLink RX4 133 yX0_isLost, Cond.instanceMethod yX0_isLost, Cond.selects RX0 yX0_isLost yX0_isLost, Cond.initialized RX0, Cond.code yX0_isLost cX0_isLost 2 (some .boolean), Cond.fieldLink RX0 16 "OtherNames$Houses" "rows" "LOtherNames$Rows;", Cond.methodLink RX0 35 yX3_at, Cond.methodLink RX4 105 yX4_isBridged, Cond.instanceMethod yX4_isBridged, Cond.selects RX4 yX4_isBridged yX4_isBridged, Cond.initialized RX4, Cond.code yX4_isBridged cX4_isBridged 6 (some .boolean), Cond.fieldLink RX4 37 "OtherNames" "bridges" "LOtherNames$Rows;", Cond.methodLink RX4 195 yX3_size, Cond.methodLink RX4 172 yX3_at, Cond.methodLink RX4 212 yX1_ownerAt, Cond.instanceMethod yX1_ownerAt, Cond.selects RX1 yX1_ownerAt yX1_ownerAt]
def wsX4_crossWith_r3 : List Cond := [Cond.code yX1_ownerAt cX1_ownerAt 2 (some .int), Cond.methodLink RX4 215 yX0_isSpanned, Cond.instanceMethod yX0_isSpanned, Cond.selects RX0 yX0_isSpanned yX0_isSpanned, Cond.code yX0_isSpanned cX0_isSpanned 2 (some .boolean), Cond.methodLink RX4 218 yX1_spanNumberAt, Cond.instanceMethod yX1_spanNumberAt, Cond.selects RX1 yX1_spanNumberAt yX1_spanNumberAt, Cond.code yX1_spanNumberAt cX1_spanNumberAt 2 (some .int), Cond.methodLink RX4 202 yX0_spanNumber, Cond.instanceMethod yX0_spanNumber, Cond.selects RX0 yX0_spanNumber yX0_spanNumber, Cond.code yX0_spanNumber cX0_spanNumber 5 (some .int), Cond.methodLink RX0 43 yX0_isSpanned, Cond.methodLink RX4 77 yX2_isStruckOut, Cond.instanceMethod yX2_isStruckOut, Cond.selects RX2 yX2_isStruckOut yX2_isStruckOut, Cond.initialized RX2, Cond.code yX2_isStruckOut cX2_isStruckOut 2 (some .boolean), Cond.fieldLink RX2 16 "OtherNames$People" "rows" "LOtherNames$Rows;", Cond.methodLink RX2 42 yX3_at, Cond.methodLink RX4 80 yX4_nameIn, Cond.instanceMethod yX4_nameIn, Cond.selects RX4 yX4_nameIn yX4_nameIn]
def wsX4_crossWith_r4 : List Cond := [Cond.code yX4_nameIn cX4_nameIn 7 (some .int), Cond.methodLink RX4 199 yX1_countGivenBy, Cond.instanceMethod yX1_countGivenBy, Cond.selects RX1 yX1_countGivenBy yX1_countGivenBy, Cond.code yX1_countGivenBy cX1_countGivenBy 2 (some .int), Cond.methodLink RX1 58 yX1_countWith, Cond.instanceMethod yX1_countWith, Cond.selects RX1 yX1_countWith yX1_countWith, Cond.code yX1_countWith cX1_countWith 5 (some .int), Cond.methodLink RX4 178 yX2_headOf, Cond.instanceMethod yX2_headOf, Cond.selects RX2 yX2_headOf yX2_headOf, Cond.code yX2_headOf cX2_headOf 4 (some .int), Cond.methodLink RX4 205 yX1_firstFor, Cond.instanceMethod yX1_firstFor, Cond.selects RX1 yX1_firstFor yX1_firstFor, Cond.code yX1_firstFor cX1_firstFor 6 (some .int), Cond.fieldLink RX1 20 "OtherNames$Names" "people" "LOtherNames$People;", Cond.methodLink RX1 43 yX1_spanNumberAt, Cond.methodLink RX1 46 yX1_ownerAt, Cond.methodLink RX1 49 yX2_headOf, Cond.methodLink RX4 208 yX0_nameNumber, Cond.instanceMethod yX0_nameNumber, Cond.selects RX0 yX0_nameNumber yX0_nameNumber]
def wsX4_crossWith_r5 : List Cond := [Cond.code yX0_nameNumber cX0_nameNumber 3 (some .int), Cond.methodLink RX0 39 yX0_seedOf, Cond.instanceMethod yX0_seedOf, Cond.selects RX0 yX0_seedOf yX0_seedOf, Cond.code yX0_seedOf cX0_seedOf 2 (some .int), Cond.methodLink RX4 211 yX1_add, Cond.instanceMethod yX1_add, Cond.selects RX1 yX1_add yX1_add, Cond.code yX1_add cX1_add 7 (some .int), Cond.methodLink RX1 32 yX3_addRow, Cond.instanceMethod yX3_addRow, Cond.selects RX3 yX3_addRow yX3_addRow, Cond.code yX3_addRow cX3_addRow 1 (some .int), Cond.methodLink RX3 31 yX3_isFull, Cond.instanceMethod yX3_isFull, Cond.selects RX3 yX3_isFull yX3_isFull, Cond.code yX3_isFull cX3_isFull 1 (some .boolean), Cond.fieldLink RX3 15 "OtherNames$Rows" "most" "I", Cond.methodLink RX1 35 yX3_put, Cond.instanceMethod yX3_put, Cond.selects RX3 yX3_put yX3_put, Cond.code yX3_put cX3_put 4 none, Cond.methodLink RX4 91 yX1_nameAt]
def wsX4_crossWith : List Cond := .code yX4_crossWith cX4_crossWith 7 (some .int) :: ((wsX4_crossWith_r1 ++ (wsX4_crossWith_r2 ++ (wsX4_crossWith_r3 ++ (wsX4_crossWith_r4 ++ wsX4_crossWith_r5)))) ++ wsX40 ++ wsX10 ++ wsX30 ++ wsX00 ++ wsX20)
def wsX4_enter : List Cond := .code yX4_enter cX4_enter 7 none :: ([.fieldLink RX4 41 "OtherNames" "entries" "LOtherNames$Rows;", .fieldLink RX4 44 "OtherNames" "today" "I", .methodLink RX4 97 yX3_addRow, .instanceMethod yX3_addRow, .selects RX3 yX3_addRow yX3_addRow, .initialized RX3, .code yX3_addRow cX3_addRow 1 (some .int), .fieldLink RX3 28 "OtherNames$Rows" "size" "I", .methodLink RX3 31 yX3_isFull, .instanceMethod yX3_isFull, .selects RX3 yX3_isFull yX3_isFull, .code yX3_isFull cX3_isFull 1 (some .boolean), .fieldLink RX3 15 "OtherNames$Rows" "most" "I", .methodLink RX4 101 yX3_put, .instanceMethod yX3_put, .selects RX3 yX3_put yX3_put, .code yX3_put cX3_put 4 none, .fieldLink RX3 24 "OtherNames$Rows" "cells" "[I", .fieldLink RX3 21 "OtherNames$Rows" "width" "I", .methodLink RX3 35 yX3_hasCell, .instanceMethod yX3_hasCell, .selects RX3 yX3_hasCell yX3_hasCell, .code yX3_hasCell cX3_hasCell 3 (some .boolean)] ++ wsX40 ++ wsX30)
def wsX4_cross_r1 : List Cond := [Cond.fieldLink RX4 19 "OtherNames" "houses" "LOtherNames$Houses;", Cond.fieldLink RX4 41 "OtherNames" "entries" "LOtherNames$Rows;", Cond.methodLink RX4 73 yX0_isThere, Cond.instanceMethod yX0_isThere, Cond.selects RX0 yX0_isThere yX0_isThere, Cond.initialized RX0, Cond.code yX0_isThere cX0_isThere 2 (some .boolean), Cond.fieldLink RX0 16 "OtherNames$Houses" "rows" "LOtherNames$Rows;", Cond.methodLink RX0 24 yX3_isThere, Cond.instanceMethod yX3_isThere, Cond.selects RX3 yX3_isThere yX3_isThere, Cond.initialized RX3, Cond.code yX3_isThere cX3_isThere 2 (some .boolean), Cond.fieldLink RX3 28 "OtherNames$Rows" "size" "I", Cond.methodLink RX4 112 yX4_isHand, Cond.static yX4_isHand, Cond.initialized RX4, Cond.code yX4_isHand cX4_isHand 1 (some .boolean), Cond.methodLink RX4 115 yX3_isFull, Cond.instanceMethod yX3_isFull, Cond.selects RX3 yX3_isFull yX3_isFull, Cond.code yX3_isFull cX3_isFull 1 (some .boolean), Cond.fieldLink RX3 15 "OtherNames$Rows" "most" "I", Cond.methodLink RX4 119 yX4_crossWith]
def wsX4_cross_r2 : List Cond := [Cond.instanceMethod yX4_crossWith, Cond.selects RX4 yX4_crossWith yX4_crossWith, Cond.code yX4_crossWith cX4_crossWith 7 (some .int), Cond.fieldLink RX4 28 "OtherNames" "names" "LOtherNames$Names;", Cond.fieldLink RX4 44 "OtherNames" "today" "I", Cond.fieldLink RX4 10 "OtherNames" "people" "LOtherNames$People;", Cond.methodLink RX4 84 yX1_find, Cond.instanceMethod yX1_find, Cond.selects RX1 yX1_find yX1_find, Cond.initialized RX1, Cond.code yX1_find cX1_find 4 (some .int), Cond.fieldLink RX1 16 "OtherNames$Names" "rows" "LOtherNames$Rows;", Cond.methodLink RX1 24 yX3_size, Cond.instanceMethod yX3_size, Cond.selects RX3 yX3_size yX3_size, Cond.code yX3_size cX3_size 1 (some .int), Cond.methodLink RX1 28 yX3_at, Cond.instanceMethod yX3_at, Cond.selects RX3 yX3_at yX3_at, Cond.code yX3_at cX3_at 3 (some .int), Cond.fieldLink RX3 24 "OtherNames$Rows" "cells" "[I", Cond.fieldLink RX3 21 "OtherNames$Rows" "width" "I", Cond.methodLink RX3 35 yX3_hasCell, Cond.instanceMethod yX3_hasCell]
def wsX4_cross_r3 : List Cond := [Cond.selects RX3 yX3_hasCell yX3_hasCell, Cond.code yX3_hasCell cX3_hasCell 3 (some .boolean), Cond.methodLink RX1 39 yX1_nameAt, Cond.instanceMethod yX1_nameAt, Cond.selects RX1 yX1_nameAt yX1_nameAt, Cond.code yX1_nameAt cX1_nameAt 2 (some .int), Cond.methodLink RX4 133 yX0_isLost, Cond.instanceMethod yX0_isLost, Cond.selects RX0 yX0_isLost yX0_isLost, Cond.code yX0_isLost cX0_isLost 2 (some .boolean), Cond.methodLink RX0 35 yX3_at, Cond.methodLink RX4 105 yX4_isBridged, Cond.instanceMethod yX4_isBridged, Cond.selects RX4 yX4_isBridged yX4_isBridged, Cond.code yX4_isBridged cX4_isBridged 6 (some .boolean), Cond.fieldLink RX4 37 "OtherNames" "bridges" "LOtherNames$Rows;", Cond.methodLink RX4 195 yX3_size, Cond.methodLink RX4 172 yX3_at, Cond.methodLink RX4 212 yX1_ownerAt, Cond.instanceMethod yX1_ownerAt, Cond.selects RX1 yX1_ownerAt yX1_ownerAt, Cond.code yX1_ownerAt cX1_ownerAt 2 (some .int), Cond.methodLink RX4 215 yX0_isSpanned, Cond.instanceMethod yX0_isSpanned]
def wsX4_cross_r4 : List Cond := [Cond.selects RX0 yX0_isSpanned yX0_isSpanned, Cond.code yX0_isSpanned cX0_isSpanned 2 (some .boolean), Cond.methodLink RX4 218 yX1_spanNumberAt, Cond.instanceMethod yX1_spanNumberAt, Cond.selects RX1 yX1_spanNumberAt yX1_spanNumberAt, Cond.code yX1_spanNumberAt cX1_spanNumberAt 2 (some .int), Cond.methodLink RX4 202 yX0_spanNumber, Cond.instanceMethod yX0_spanNumber, Cond.selects RX0 yX0_spanNumber yX0_spanNumber, Cond.code yX0_spanNumber cX0_spanNumber 5 (some .int), Cond.methodLink RX0 43 yX0_isSpanned, Cond.methodLink RX4 77 yX2_isStruckOut, Cond.instanceMethod yX2_isStruckOut, Cond.selects RX2 yX2_isStruckOut yX2_isStruckOut, Cond.initialized RX2, Cond.code yX2_isStruckOut cX2_isStruckOut 2 (some .boolean), Cond.fieldLink RX2 16 "OtherNames$People" "rows" "LOtherNames$Rows;", Cond.methodLink RX2 42 yX3_at, Cond.methodLink RX4 80 yX4_nameIn, Cond.instanceMethod yX4_nameIn, Cond.selects RX4 yX4_nameIn yX4_nameIn, Cond.code yX4_nameIn cX4_nameIn 7 (some .int), Cond.methodLink RX4 199 yX1_countGivenBy, Cond.instanceMethod yX1_countGivenBy]
def wsX4_cross_r5 : List Cond := [Cond.selects RX1 yX1_countGivenBy yX1_countGivenBy, Cond.code yX1_countGivenBy cX1_countGivenBy 2 (some .int), Cond.methodLink RX1 58 yX1_countWith, Cond.instanceMethod yX1_countWith, Cond.selects RX1 yX1_countWith yX1_countWith, Cond.code yX1_countWith cX1_countWith 5 (some .int), Cond.methodLink RX4 178 yX2_headOf, Cond.instanceMethod yX2_headOf, Cond.selects RX2 yX2_headOf yX2_headOf, Cond.code yX2_headOf cX2_headOf 4 (some .int), Cond.methodLink RX4 205 yX1_firstFor, Cond.instanceMethod yX1_firstFor, Cond.selects RX1 yX1_firstFor yX1_firstFor, Cond.code yX1_firstFor cX1_firstFor 6 (some .int), Cond.fieldLink RX1 20 "OtherNames$Names" "people" "LOtherNames$People;", Cond.methodLink RX1 43 yX1_spanNumberAt, Cond.methodLink RX1 46 yX1_ownerAt, Cond.methodLink RX1 49 yX2_headOf, Cond.methodLink RX4 208 yX0_nameNumber, Cond.instanceMethod yX0_nameNumber, Cond.selects RX0 yX0_nameNumber yX0_nameNumber, Cond.code yX0_nameNumber cX0_nameNumber 3 (some .int), Cond.methodLink RX0 39 yX0_seedOf, Cond.instanceMethod yX0_seedOf]
def wsX4_cross_r6 : List Cond := [Cond.selects RX0 yX0_seedOf yX0_seedOf, Cond.code yX0_seedOf cX0_seedOf 2 (some .int), Cond.methodLink RX4 211 yX1_add, Cond.instanceMethod yX1_add, Cond.selects RX1 yX1_add yX1_add, Cond.code yX1_add cX1_add 7 (some .int), Cond.methodLink RX1 32 yX3_addRow, Cond.instanceMethod yX3_addRow, Cond.selects RX3 yX3_addRow yX3_addRow, Cond.code yX3_addRow cX3_addRow 1 (some .int), Cond.methodLink RX3 31 yX3_isFull, Cond.methodLink RX1 35 yX3_put, Cond.instanceMethod yX3_put, Cond.selects RX3 yX3_put yX3_put, Cond.code yX3_put cX3_put 4 none, Cond.methodLink RX4 91 yX1_nameAt, Cond.methodLink RX4 123 yX4_enter, Cond.instanceMethod yX4_enter, Cond.selects RX4 yX4_enter yX4_enter, Cond.code yX4_enter cX4_enter 7 none, Cond.methodLink RX4 97 yX3_addRow, Cond.methodLink RX4 101 yX3_put]
def wsX4_cross : List Cond := .code yX4_cross cX4_cross 6 (some .int) :: ((wsX4_cross_r1 ++ (wsX4_cross_r2 ++ (wsX4_cross_r3 ++ (wsX4_cross_r4 ++ (wsX4_cross_r5 ++ wsX4_cross_r6))))) ++ wsX40 ++ wsX00 ++ wsX30 ++ wsX10 ++ wsX20)
def wsX4_isReason : List Cond := .code yX4_isReason cX4_isReason 1 (some .boolean) :: ([])
def wsX4_headBehind_r1 : List Cond := [Cond.fieldLink RX4 28 "OtherNames" "names" "LOtherNames$Names;", Cond.fieldLink RX4 10 "OtherNames" "people" "LOtherNames$People;", Cond.methodLink RX4 84 yX1_find, Cond.instanceMethod yX1_find, Cond.selects RX1 yX1_find yX1_find, Cond.initialized RX1, Cond.code yX1_find cX1_find 4 (some .int), Cond.fieldLink RX1 16 "OtherNames$Names" "rows" "LOtherNames$Rows;", Cond.methodLink RX1 24 yX3_size, Cond.instanceMethod yX3_size, Cond.selects RX3 yX3_size yX3_size, Cond.initialized RX3, Cond.code yX3_size cX3_size 1 (some .int), Cond.fieldLink RX3 28 "OtherNames$Rows" "size" "I", Cond.methodLink RX1 28 yX3_at, Cond.instanceMethod yX3_at, Cond.selects RX3 yX3_at yX3_at, Cond.code yX3_at cX3_at 3 (some .int), Cond.fieldLink RX3 24 "OtherNames$Rows" "cells" "[I", Cond.fieldLink RX3 21 "OtherNames$Rows" "width" "I", Cond.methodLink RX3 35 yX3_hasCell, Cond.instanceMethod yX3_hasCell, Cond.selects RX3 yX3_hasCell yX3_hasCell, Cond.code yX3_hasCell cX3_hasCell 3 (some .boolean)]
def wsX4_headBehind_r2 : List Cond := [Cond.methodLink RX1 39 yX1_nameAt, Cond.instanceMethod yX1_nameAt, Cond.selects RX1 yX1_nameAt yX1_nameAt, Cond.code yX1_nameAt cX1_nameAt 2 (some .int), Cond.methodLink RX4 212 yX1_ownerAt, Cond.instanceMethod yX1_ownerAt, Cond.selects RX1 yX1_ownerAt yX1_ownerAt, Cond.code yX1_ownerAt cX1_ownerAt 2 (some .int), Cond.methodLink RX4 77 yX2_isStruckOut, Cond.instanceMethod yX2_isStruckOut, Cond.selects RX2 yX2_isStruckOut yX2_isStruckOut, Cond.initialized RX2, Cond.code yX2_isStruckOut cX2_isStruckOut 2 (some .boolean), Cond.fieldLink RX2 16 "OtherNames$People" "rows" "LOtherNames$Rows;", Cond.methodLink RX2 42 yX3_at, Cond.methodLink RX4 178 yX2_headOf, Cond.instanceMethod yX2_headOf, Cond.selects RX2 yX2_headOf yX2_headOf, Cond.code yX2_headOf cX2_headOf 4 (some .int)]
def wsX4_headBehind : List Cond := .code yX4_headBehind cX4_headBehind 4 (some .int) :: ((wsX4_headBehind_r1 ++ wsX4_headBehind_r2) ++ wsX40 ++ wsX10 ++ wsX30 ++ wsX20)
def wsX4_back_r1 : List Cond := [Cond.fieldLink RX4 19 "OtherNames" "houses" "LOtherNames$Houses;", Cond.fieldLink RX4 41 "OtherNames" "entries" "LOtherNames$Rows;", Cond.methodLink RX4 73 yX0_isThere, Cond.instanceMethod yX0_isThere, Cond.selects RX0 yX0_isThere yX0_isThere, Cond.initialized RX0, Cond.code yX0_isThere cX0_isThere 2 (some .boolean), Cond.fieldLink RX0 16 "OtherNames$Houses" "rows" "LOtherNames$Rows;", Cond.methodLink RX0 24 yX3_isThere, Cond.instanceMethod yX3_isThere, Cond.selects RX3 yX3_isThere yX3_isThere, Cond.initialized RX3, Cond.code yX3_isThere cX3_isThere 2 (some .boolean), Cond.fieldLink RX3 28 "OtherNames$Rows" "size" "I", Cond.methodLink RX4 127 yX4_isReason, Cond.static yX4_isReason, Cond.initialized RX4, Cond.code yX4_isReason cX4_isReason 1 (some .boolean), Cond.methodLink RX4 112 yX4_isHand, Cond.static yX4_isHand, Cond.code yX4_isHand cX4_isHand 1 (some .boolean), Cond.methodLink RX4 115 yX3_isFull, Cond.instanceMethod yX3_isFull, Cond.selects RX3 yX3_isFull yX3_isFull]
def wsX4_back_r2 : List Cond := [Cond.code yX3_isFull cX3_isFull 1 (some .boolean), Cond.fieldLink RX3 15 "OtherNames$Rows" "most" "I", Cond.methodLink RX4 130 yX0_reasonCounts, Cond.instanceMethod yX0_reasonCounts, Cond.selects RX0 yX0_reasonCounts yX0_reasonCounts, Cond.code yX0_reasonCounts cX0_reasonCounts 3 (some .boolean), Cond.methodLink RX0 35 yX3_at, Cond.instanceMethod yX3_at, Cond.selects RX3 yX3_at yX3_at, Cond.code yX3_at cX3_at 3 (some .int), Cond.fieldLink RX3 24 "OtherNames$Rows" "cells" "[I", Cond.fieldLink RX3 21 "OtherNames$Rows" "width" "I", Cond.methodLink RX3 35 yX3_hasCell, Cond.instanceMethod yX3_hasCell, Cond.selects RX3 yX3_hasCell yX3_hasCell, Cond.code yX3_hasCell cX3_hasCell 3 (some .boolean), Cond.methodLink RX4 133 yX0_isLost, Cond.instanceMethod yX0_isLost, Cond.selects RX0 yX0_isLost yX0_isLost, Cond.code yX0_isLost cX0_isLost 2 (some .boolean), Cond.methodLink RX4 136 yX4_headBehind, Cond.instanceMethod yX4_headBehind, Cond.selects RX4 yX4_headBehind yX4_headBehind, Cond.code yX4_headBehind cX4_headBehind 4 (some .int)]
def wsX4_back_r3 : List Cond := [Cond.fieldLink RX4 28 "OtherNames" "names" "LOtherNames$Names;", Cond.fieldLink RX4 10 "OtherNames" "people" "LOtherNames$People;", Cond.methodLink RX4 84 yX1_find, Cond.instanceMethod yX1_find, Cond.selects RX1 yX1_find yX1_find, Cond.initialized RX1, Cond.code yX1_find cX1_find 4 (some .int), Cond.fieldLink RX1 16 "OtherNames$Names" "rows" "LOtherNames$Rows;", Cond.methodLink RX1 24 yX3_size, Cond.instanceMethod yX3_size, Cond.selects RX3 yX3_size yX3_size, Cond.code yX3_size cX3_size 1 (some .int), Cond.methodLink RX1 28 yX3_at, Cond.methodLink RX1 39 yX1_nameAt, Cond.instanceMethod yX1_nameAt, Cond.selects RX1 yX1_nameAt yX1_nameAt, Cond.code yX1_nameAt cX1_nameAt 2 (some .int), Cond.methodLink RX4 212 yX1_ownerAt, Cond.instanceMethod yX1_ownerAt, Cond.selects RX1 yX1_ownerAt yX1_ownerAt, Cond.code yX1_ownerAt cX1_ownerAt 2 (some .int), Cond.methodLink RX4 77 yX2_isStruckOut, Cond.instanceMethod yX2_isStruckOut, Cond.selects RX2 yX2_isStruckOut yX2_isStruckOut]
def wsX4_back_r4 : List Cond := [Cond.initialized RX2, Cond.code yX2_isStruckOut cX2_isStruckOut 2 (some .boolean), Cond.fieldLink RX2 16 "OtherNames$People" "rows" "LOtherNames$Rows;", Cond.methodLink RX2 42 yX3_at, Cond.methodLink RX4 178 yX2_headOf, Cond.instanceMethod yX2_headOf, Cond.selects RX2 yX2_headOf yX2_headOf, Cond.code yX2_headOf cX2_headOf 4 (some .int), Cond.methodLink RX4 123 yX4_enter, Cond.instanceMethod yX4_enter, Cond.selects RX4 yX4_enter yX4_enter, Cond.code yX4_enter cX4_enter 7 none, Cond.fieldLink RX4 44 "OtherNames" "today" "I", Cond.methodLink RX4 97 yX3_addRow, Cond.instanceMethod yX3_addRow, Cond.selects RX3 yX3_addRow yX3_addRow, Cond.code yX3_addRow cX3_addRow 1 (some .int), Cond.methodLink RX3 31 yX3_isFull, Cond.methodLink RX4 101 yX3_put, Cond.instanceMethod yX3_put, Cond.selects RX3 yX3_put yX3_put, Cond.code yX3_put cX3_put 4 none]
def wsX4_back : List Cond := .code yX4_back cX4_back 8 (some .int) :: ((wsX4_back_r1 ++ (wsX4_back_r2 ++ (wsX4_back_r3 ++ wsX4_back_r4))) ++ wsX40 ++ wsX00 ++ wsX30 ++ wsX10 ++ wsX20)
def wsX4_lose_r1 : List Cond := [Cond.fieldLink RX4 19 "OtherNames" "houses" "LOtherNames$Houses;", Cond.methodLink RX4 73 yX0_isThere, Cond.instanceMethod yX0_isThere, Cond.selects RX0 yX0_isThere yX0_isThere, Cond.initialized RX0, Cond.code yX0_isThere cX0_isThere 2 (some .boolean), Cond.fieldLink RX0 16 "OtherNames$Houses" "rows" "LOtherNames$Rows;", Cond.methodLink RX0 24 yX3_isThere, Cond.instanceMethod yX3_isThere, Cond.selects RX3 yX3_isThere yX3_isThere, Cond.initialized RX3, Cond.code yX3_isThere cX3_isThere 2 (some .boolean), Cond.fieldLink RX3 28 "OtherNames$Rows" "size" "I", Cond.methodLink RX4 133 yX0_isLost, Cond.instanceMethod yX0_isLost, Cond.selects RX0 yX0_isLost yX0_isLost, Cond.code yX0_isLost cX0_isLost 2 (some .boolean), Cond.methodLink RX0 35 yX3_at, Cond.instanceMethod yX3_at, Cond.selects RX3 yX3_at yX3_at, Cond.code yX3_at cX3_at 3 (some .int), Cond.fieldLink RX3 24 "OtherNames$Rows" "cells" "[I", Cond.fieldLink RX3 21 "OtherNames$Rows" "width" "I", Cond.methodLink RX3 35 yX3_hasCell]
def wsX4_lose_r2 : List Cond := [Cond.instanceMethod yX3_hasCell, Cond.selects RX3 yX3_hasCell yX3_hasCell, Cond.code yX3_hasCell cX3_hasCell 3 (some .boolean), Cond.methodLink RX4 139 yX0_setLost, Cond.instanceMethod yX0_setLost, Cond.selects RX0 yX0_setLost yX0_setLost, Cond.code yX0_setLost cX0_setLost 3 none, Cond.methodLink RX0 31 yX3_put, Cond.instanceMethod yX3_put, Cond.selects RX3 yX3_put yX3_put, Cond.code yX3_put cX3_put 4 none]
def wsX4_lose : List Cond := .code yX4_lose cX4_lose 2 (some .boolean) :: ((wsX4_lose_r1 ++ wsX4_lose_r2) ++ wsX40 ++ wsX00 ++ wsX30)
def wsX4_anew_r1 : List Cond := [Cond.fieldLink RX4 19 "OtherNames" "houses" "LOtherNames$Houses;", Cond.methodLink RX4 73 yX0_isThere, Cond.instanceMethod yX0_isThere, Cond.selects RX0 yX0_isThere yX0_isThere, Cond.initialized RX0, Cond.code yX0_isThere cX0_isThere 2 (some .boolean), Cond.fieldLink RX0 16 "OtherNames$Houses" "rows" "LOtherNames$Rows;", Cond.methodLink RX0 24 yX3_isThere, Cond.instanceMethod yX3_isThere, Cond.selects RX3 yX3_isThere yX3_isThere, Cond.initialized RX3, Cond.code yX3_isThere cX3_isThere 2 (some .boolean), Cond.fieldLink RX3 28 "OtherNames$Rows" "size" "I", Cond.methodLink RX4 133 yX0_isLost, Cond.instanceMethod yX0_isLost, Cond.selects RX0 yX0_isLost yX0_isLost, Cond.code yX0_isLost cX0_isLost 2 (some .boolean), Cond.methodLink RX0 35 yX3_at, Cond.instanceMethod yX3_at, Cond.selects RX3 yX3_at yX3_at, Cond.code yX3_at cX3_at 3 (some .int), Cond.fieldLink RX3 24 "OtherNames$Rows" "cells" "[I", Cond.fieldLink RX3 21 "OtherNames$Rows" "width" "I", Cond.methodLink RX3 35 yX3_hasCell]
def wsX4_anew_r2 : List Cond := [Cond.instanceMethod yX3_hasCell, Cond.selects RX3 yX3_hasCell yX3_hasCell, Cond.code yX3_hasCell cX3_hasCell 3 (some .boolean), Cond.methodLink RX4 143 yX0_seedOf, Cond.instanceMethod yX0_seedOf, Cond.selects RX0 yX0_seedOf yX0_seedOf, Cond.code yX0_seedOf cX0_seedOf 2 (some .int), Cond.methodLink RX4 139 yX0_setLost, Cond.instanceMethod yX0_setLost, Cond.selects RX0 yX0_setLost yX0_setLost, Cond.code yX0_setLost cX0_setLost 3 none, Cond.methodLink RX0 31 yX3_put, Cond.instanceMethod yX3_put, Cond.selects RX3 yX3_put yX3_put, Cond.code yX3_put cX3_put 4 none]
def wsX4_anew : List Cond := .code yX4_anew cX4_anew 3 (some .boolean) :: ((wsX4_anew_r1 ++ wsX4_anew_r2) ++ wsX40 ++ wsX00 ++ wsX30)
def wsX4_areMarks : List Cond := .code yX4_areMarks cX4_areMarks 1 (some .boolean) :: ([])
def wsX4_joins_r1 : List Cond := [Cond.fieldLink RX4 28 "OtherNames" "names" "LOtherNames$Names;", Cond.fieldLink RX4 10 "OtherNames" "people" "LOtherNames$People;", Cond.methodLink RX4 94 yX4_areTwoHouses, Cond.instanceMethod yX4_areTwoHouses, Cond.selects RX4 yX4_areTwoHouses yX4_areTwoHouses, Cond.initialized RX4, Cond.code yX4_areTwoHouses cX4_areTwoHouses 3 (some .boolean), Cond.fieldLink RX4 19 "OtherNames" "houses" "LOtherNames$Houses;", Cond.methodLink RX4 73 yX0_isThere, Cond.instanceMethod yX0_isThere, Cond.selects RX0 yX0_isThere yX0_isThere, Cond.initialized RX0, Cond.code yX0_isThere cX0_isThere 2 (some .boolean), Cond.fieldLink RX0 16 "OtherNames$Houses" "rows" "LOtherNames$Rows;", Cond.methodLink RX0 24 yX3_isThere, Cond.instanceMethod yX3_isThere, Cond.selects RX3 yX3_isThere yX3_isThere, Cond.initialized RX3, Cond.code yX3_isThere cX3_isThere 2 (some .boolean), Cond.fieldLink RX3 28 "OtherNames$Rows" "size" "I", Cond.methodLink RX4 146 yX4_areMarks, Cond.static yX4_areMarks, Cond.code yX4_areMarks cX4_areMarks 1 (some .boolean), Cond.methodLink RX4 149 yX1_knownTo]
def wsX4_joins_r2 : List Cond := [Cond.instanceMethod yX1_knownTo, Cond.selects RX1 yX1_knownTo yX1_knownTo, Cond.initialized RX1, Cond.code yX1_knownTo cX1_knownTo 5 (some .int), Cond.fieldLink RX1 16 "OtherNames$Names" "rows" "LOtherNames$Rows;", Cond.fieldLink RX1 20 "OtherNames$Names" "people" "LOtherNames$People;", Cond.methodLink RX1 24 yX3_size, Cond.instanceMethod yX3_size, Cond.selects RX3 yX3_size yX3_size, Cond.code yX3_size cX3_size 1 (some .int), Cond.methodLink RX1 46 yX1_ownerAt, Cond.instanceMethod yX1_ownerAt, Cond.selects RX1 yX1_ownerAt yX1_ownerAt, Cond.code yX1_ownerAt cX1_ownerAt 2 (some .int), Cond.methodLink RX1 28 yX3_at, Cond.instanceMethod yX3_at, Cond.selects RX3 yX3_at yX3_at, Cond.code yX3_at cX3_at 3 (some .int), Cond.fieldLink RX3 24 "OtherNames$Rows" "cells" "[I", Cond.fieldLink RX3 21 "OtherNames$Rows" "width" "I", Cond.methodLink RX3 35 yX3_hasCell, Cond.instanceMethod yX3_hasCell, Cond.selects RX3 yX3_hasCell yX3_hasCell, Cond.code yX3_hasCell cX3_hasCell 3 (some .boolean)]
def wsX4_joins_r3 : List Cond := [Cond.methodLink RX1 49 yX2_headOf, Cond.instanceMethod yX2_headOf, Cond.selects RX2 yX2_headOf yX2_headOf, Cond.initialized RX2, Cond.code yX2_headOf cX2_headOf 4 (some .int), Cond.fieldLink RX2 16 "OtherNames$People" "rows" "LOtherNames$Rows;", Cond.methodLink RX2 42 yX3_at, Cond.methodLink RX1 61 yX2_isStruckOut, Cond.instanceMethod yX2_isStruckOut, Cond.selects RX2 yX2_isStruckOut yX2_isStruckOut, Cond.code yX2_isStruckOut cX2_isStruckOut 2 (some .boolean), Cond.methodLink RX4 152 yX2_groupSize, Cond.instanceMethod yX2_groupSize, Cond.selects RX2 yX2_groupSize yX2_groupSize, Cond.code yX2_groupSize cX2_groupSize 6 (some .int), Cond.methodLink RX2 63 yX2_isAmong, Cond.static yX2_isAmong, Cond.code yX2_isAmong cX2_isAmong 2 (some .boolean), Cond.methodLink RX2 67 yX2_areAlike, Cond.instanceMethod yX2_areAlike, Cond.selects RX2 yX2_areAlike yX2_areAlike, Cond.code yX2_areAlike cX2_areAlike 5 (some .boolean), Cond.methodLink RX2 71 yX2_markOf, Cond.instanceMethod yX2_markOf]
def wsX4_joins_r4 : List Cond := [Cond.selects RX2 yX2_markOf yX2_markOf, Cond.code yX2_markOf cX2_markOf 3 (some .int), Cond.methodLink RX2 39 yX2_isMark, Cond.static yX2_isMark, Cond.code yX2_isMark cX2_isMark 1 (some .boolean)]
def wsX4_joins : List Cond := .code yX4_joins cX4_joins 9 (some .int) :: ((wsX4_joins_r1 ++ (wsX4_joins_r2 ++ (wsX4_joins_r3 ++ wsX4_joins_r4))) ++ wsX40 ++ wsX00 ++ wsX30 ++ wsX10 ++ wsX20)
def wsJ6_bitCount_0f7a4 : List Cond := .code yJ6_bitCount_0f7a4 cJ6_bitCount_0f7a4 1 (some .int) :: ([.constant RJ6 265 (1431655765), .constant RJ6 266 (858993459), .constant RJ6 267 (252645135)])
def wsX4_least_r1 : List Cond := [Cond.fieldLink RX4 19 "OtherNames" "houses" "LOtherNames$Houses;", Cond.fieldLink RX4 28 "OtherNames" "names" "LOtherNames$Names;", Cond.fieldLink RX4 10 "OtherNames" "people" "LOtherNames$People;", Cond.methodLink RX4 73 yX0_isThere, Cond.instanceMethod yX0_isThere, Cond.selects RX0 yX0_isThere yX0_isThere, Cond.initialized RX0, Cond.code yX0_isThere cX0_isThere 2 (some .boolean), Cond.fieldLink RX0 16 "OtherNames$Houses" "rows" "LOtherNames$Rows;", Cond.methodLink RX0 24 yX3_isThere, Cond.instanceMethod yX3_isThere, Cond.selects RX3 yX3_isThere yX3_isThere, Cond.initialized RX3, Cond.code yX3_isThere cX3_isThere 2 (some .boolean), Cond.fieldLink RX3 28 "OtherNames$Rows" "size" "I", Cond.methodLink RX4 146 yX4_areMarks, Cond.static yX4_areMarks, Cond.initialized RX4, Cond.code yX4_areMarks cX4_areMarks 1 (some .boolean), Cond.methodLink RX4 149 yX1_knownTo, Cond.instanceMethod yX1_knownTo, Cond.selects RX1 yX1_knownTo yX1_knownTo, Cond.initialized RX1, Cond.code yX1_knownTo cX1_knownTo 5 (some .int)]
def wsX4_least_r2 : List Cond := [Cond.fieldLink RX1 16 "OtherNames$Names" "rows" "LOtherNames$Rows;", Cond.fieldLink RX1 20 "OtherNames$Names" "people" "LOtherNames$People;", Cond.methodLink RX1 24 yX3_size, Cond.instanceMethod yX3_size, Cond.selects RX3 yX3_size yX3_size, Cond.code yX3_size cX3_size 1 (some .int), Cond.methodLink RX1 46 yX1_ownerAt, Cond.instanceMethod yX1_ownerAt, Cond.selects RX1 yX1_ownerAt yX1_ownerAt, Cond.code yX1_ownerAt cX1_ownerAt 2 (some .int), Cond.methodLink RX1 28 yX3_at, Cond.instanceMethod yX3_at, Cond.selects RX3 yX3_at yX3_at, Cond.code yX3_at cX3_at 3 (some .int), Cond.fieldLink RX3 24 "OtherNames$Rows" "cells" "[I", Cond.fieldLink RX3 21 "OtherNames$Rows" "width" "I", Cond.methodLink RX3 35 yX3_hasCell, Cond.instanceMethod yX3_hasCell, Cond.selects RX3 yX3_hasCell yX3_hasCell, Cond.code yX3_hasCell cX3_hasCell 3 (some .boolean), Cond.methodLink RX1 49 yX2_headOf, Cond.instanceMethod yX2_headOf, Cond.selects RX2 yX2_headOf yX2_headOf, Cond.initialized RX2]
def wsX4_least_r3 : List Cond := [Cond.code yX2_headOf cX2_headOf 4 (some .int), Cond.fieldLink RX2 16 "OtherNames$People" "rows" "LOtherNames$Rows;", Cond.methodLink RX2 42 yX3_at, Cond.methodLink RX1 61 yX2_isStruckOut, Cond.instanceMethod yX2_isStruckOut, Cond.selects RX2 yX2_isStruckOut yX2_isStruckOut, Cond.code yX2_isStruckOut cX2_isStruckOut 2 (some .boolean), Cond.methodLink RX4 155 yJ6_bitCount_0f7a4, Cond.static yJ6_bitCount_0f7a4, Cond.initialized RJ6, Cond.code yJ6_bitCount_0f7a4 cJ6_bitCount_0f7a4 1 (some .int), Cond.constant RJ6 265 (1431655765), Cond.constant RJ6 266 (858993459), Cond.constant RJ6 267 (252645135), Cond.methodLink RX4 152 yX2_groupSize, Cond.instanceMethod yX2_groupSize, Cond.selects RX2 yX2_groupSize yX2_groupSize, Cond.code yX2_groupSize cX2_groupSize 6 (some .int), Cond.methodLink RX2 63 yX2_isAmong, Cond.static yX2_isAmong, Cond.code yX2_isAmong cX2_isAmong 2 (some .boolean), Cond.methodLink RX2 67 yX2_areAlike, Cond.instanceMethod yX2_areAlike, Cond.selects RX2 yX2_areAlike yX2_areAlike]
def wsX4_least_r4 : List Cond := [Cond.code yX2_areAlike cX2_areAlike 5 (some .boolean), Cond.methodLink RX2 71 yX2_markOf, Cond.instanceMethod yX2_markOf, Cond.selects RX2 yX2_markOf yX2_markOf, Cond.code yX2_markOf cX2_markOf 3 (some .int), Cond.methodLink RX2 39 yX2_isMark, Cond.static yX2_isMark, Cond.code yX2_isMark cX2_isMark 1 (some .boolean)]
def wsX4_least : List Cond := .code yX4_least cX4_least 7 (some .int) :: ((wsX4_least_r1 ++ (wsX4_least_r2 ++ (wsX4_least_r3 ++ wsX4_least_r4))) ++ wsX40 ++ wsX00 ++ wsX30 ++ wsX10 ++ wsX20)
def wsX4_isTooSmall : List Cond := .code yX4_isTooSmall cX4_isTooSmall 3 (some .boolean) :: ([.fieldLink RX4 19 "OtherNames" "houses" "LOtherNames$Houses;", .methodLink RX4 221 yX0_leastOf, .instanceMethod yX0_leastOf, .selects RX0 yX0_leastOf yX0_leastOf, .initialized RX0, .code yX0_leastOf cX0_leastOf 2 (some .int), .fieldLink RX0 16 "OtherNames$Houses" "rows" "LOtherNames$Rows;", .methodLink RX0 35 yX3_at, .instanceMethod yX3_at, .selects RX3 yX3_at yX3_at, .initialized RX3, .code yX3_at cX3_at 3 (some .int), .fieldLink RX3 24 "OtherNames$Rows" "cells" "[I", .fieldLink RX3 21 "OtherNames$Rows" "width" "I", .methodLink RX3 35 yX3_hasCell, .instanceMethod yX3_hasCell, .selects RX3 yX3_hasCell yX3_hasCell, .code yX3_hasCell cX3_hasCell 3 (some .boolean), .fieldLink RX3 28 "OtherNames$Rows" "size" "I"] ++ wsX40 ++ wsX00 ++ wsX30)
def wsX4_count_r1 : List Cond := [Cond.fieldLink RX4 19 "OtherNames" "houses" "LOtherNames$Houses;", Cond.fieldLink RX4 28 "OtherNames" "names" "LOtherNames$Names;", Cond.fieldLink RX4 10 "OtherNames" "people" "LOtherNames$People;", Cond.methodLink RX4 73 yX0_isThere, Cond.instanceMethod yX0_isThere, Cond.selects RX0 yX0_isThere yX0_isThere, Cond.initialized RX0, Cond.code yX0_isThere cX0_isThere 2 (some .boolean), Cond.fieldLink RX0 16 "OtherNames$Houses" "rows" "LOtherNames$Rows;", Cond.methodLink RX0 24 yX3_isThere, Cond.instanceMethod yX3_isThere, Cond.selects RX3 yX3_isThere yX3_isThere, Cond.initialized RX3, Cond.code yX3_isThere cX3_isThere 2 (some .boolean), Cond.fieldLink RX3 28 "OtherNames$Rows" "size" "I", Cond.methodLink RX4 160 yX2_isMark, Cond.static yX2_isMark, Cond.initialized RX2, Cond.code yX2_isMark cX2_isMark 1 (some .boolean), Cond.methodLink RX4 163 yX2_isMarkNumber, Cond.static yX2_isMarkNumber, Cond.code yX2_isMarkNumber cX2_isMarkNumber 1 (some .boolean), Cond.methodLink RX4 149 yX1_knownTo, Cond.instanceMethod yX1_knownTo]
def wsX4_count_r2 : List Cond := [Cond.selects RX1 yX1_knownTo yX1_knownTo, Cond.initialized RX1, Cond.code yX1_knownTo cX1_knownTo 5 (some .int), Cond.fieldLink RX1 16 "OtherNames$Names" "rows" "LOtherNames$Rows;", Cond.fieldLink RX1 20 "OtherNames$Names" "people" "LOtherNames$People;", Cond.methodLink RX1 24 yX3_size, Cond.instanceMethod yX3_size, Cond.selects RX3 yX3_size yX3_size, Cond.code yX3_size cX3_size 1 (some .int), Cond.methodLink RX1 46 yX1_ownerAt, Cond.instanceMethod yX1_ownerAt, Cond.selects RX1 yX1_ownerAt yX1_ownerAt, Cond.code yX1_ownerAt cX1_ownerAt 2 (some .int), Cond.methodLink RX1 28 yX3_at, Cond.instanceMethod yX3_at, Cond.selects RX3 yX3_at yX3_at, Cond.code yX3_at cX3_at 3 (some .int), Cond.fieldLink RX3 24 "OtherNames$Rows" "cells" "[I", Cond.fieldLink RX3 21 "OtherNames$Rows" "width" "I", Cond.methodLink RX3 35 yX3_hasCell, Cond.instanceMethod yX3_hasCell, Cond.selects RX3 yX3_hasCell yX3_hasCell, Cond.code yX3_hasCell cX3_hasCell 3 (some .boolean), Cond.methodLink RX1 49 yX2_headOf]
def wsX4_count_r3 : List Cond := [Cond.instanceMethod yX2_headOf, Cond.selects RX2 yX2_headOf yX2_headOf, Cond.code yX2_headOf cX2_headOf 4 (some .int), Cond.fieldLink RX2 16 "OtherNames$People" "rows" "LOtherNames$Rows;", Cond.methodLink RX2 42 yX3_at, Cond.methodLink RX1 61 yX2_isStruckOut, Cond.instanceMethod yX2_isStruckOut, Cond.selects RX2 yX2_isStruckOut yX2_isStruckOut, Cond.code yX2_isStruckOut cX2_isStruckOut 2 (some .boolean), Cond.methodLink RX4 166 yX2_countHaving, Cond.instanceMethod yX2_countHaving, Cond.selects RX2 yX2_countHaving yX2_countHaving, Cond.code yX2_countHaving cX2_countHaving 6 (some .int), Cond.methodLink RX2 63 yX2_isAmong, Cond.static yX2_isAmong, Cond.code yX2_isAmong cX2_isAmong 2 (some .boolean), Cond.methodLink RX2 71 yX2_markOf, Cond.instanceMethod yX2_markOf, Cond.selects RX2 yX2_markOf yX2_markOf, Cond.code yX2_markOf cX2_markOf 3 (some .int), Cond.methodLink RX2 39 yX2_isMark, Cond.methodLink RX4 155 yJ6_bitCount_0f7a4, Cond.static yJ6_bitCount_0f7a4, Cond.initialized RJ6]
def wsX4_count_r4 : List Cond := [Cond.code yJ6_bitCount_0f7a4 cJ6_bitCount_0f7a4 1 (some .int), Cond.constant RJ6 265 (1431655765), Cond.constant RJ6 266 (858993459), Cond.constant RJ6 267 (252645135), Cond.methodLink RX4 169 yX4_isTooSmall, Cond.instanceMethod yX4_isTooSmall, Cond.selects RX4 yX4_isTooSmall yX4_isTooSmall, Cond.initialized RX4, Cond.code yX4_isTooSmall cX4_isTooSmall 3 (some .boolean), Cond.methodLink RX4 221 yX0_leastOf, Cond.instanceMethod yX0_leastOf, Cond.selects RX0 yX0_leastOf yX0_leastOf, Cond.code yX0_leastOf cX0_leastOf 2 (some .int), Cond.methodLink RX0 35 yX3_at]
def wsX4_count : List Cond := .code yX4_count cX4_count 7 (some .int) :: ((wsX4_count_r1 ++ (wsX4_count_r2 ++ (wsX4_count_r3 ++ wsX4_count_r4))) ++ wsX40 ++ wsX00 ++ wsX30 ++ wsX10 ++ wsX20)
def wsX4_record : List Cond := .code yX4_record cX4_record 3 (some .int) :: ([.fieldLink RX4 41 "OtherNames" "entries" "LOtherNames$Rows;", .methodLink RX4 172 yX3_at, .instanceMethod yX3_at, .selects RX3 yX3_at yX3_at, .initialized RX3, .code yX3_at cX3_at 3 (some .int), .fieldLink RX3 24 "OtherNames$Rows" "cells" "[I", .fieldLink RX3 21 "OtherNames$Rows" "width" "I", .methodLink RX3 35 yX3_hasCell, .instanceMethod yX3_hasCell, .selects RX3 yX3_hasCell yX3_hasCell, .code yX3_hasCell cX3_hasCell 3 (some .boolean), .fieldLink RX3 28 "OtherNames$Rows" "size" "I"] ++ wsX40 ++ wsX30)
def wsX4_given : List Cond := .code yX4_given cX4_given 3 (some .int) :: ([.fieldLink RX4 28 "OtherNames" "names" "LOtherNames$Names;", .methodLink RX4 175 yX1_cell, .instanceMethod yX1_cell, .selects RX1 yX1_cell yX1_cell, .initialized RX1, .code yX1_cell cX1_cell 3 (some .int), .fieldLink RX1 16 "OtherNames$Names" "rows" "LOtherNames$Rows;", .methodLink RX1 28 yX3_at, .instanceMethod yX3_at, .selects RX3 yX3_at yX3_at, .initialized RX3, .code yX3_at cX3_at 3 (some .int), .fieldLink RX3 24 "OtherNames$Rows" "cells" "[I", .fieldLink RX3 21 "OtherNames$Rows" "width" "I", .methodLink RX3 35 yX3_hasCell, .instanceMethod yX3_hasCell, .selects RX3 yX3_hasCell yX3_hasCell, .code yX3_hasCell cX3_hasCell 3 (some .boolean), .fieldLink RX3 28 "OtherNames$Rows" "size" "I"] ++ wsX40 ++ wsX10 ++ wsX30)
def wsX4_look_r1 : List Cond := [Cond.fieldLink RX4 10 "OtherNames" "people" "LOtherNames$People;", Cond.fieldLink RX4 28 "OtherNames" "names" "LOtherNames$Names;", Cond.methodLink RX4 76 yX2_isThere, Cond.instanceMethod yX2_isThere, Cond.selects RX2 yX2_isThere yX2_isThere, Cond.initialized RX2, Cond.code yX2_isThere cX2_isThere 2 (some .boolean), Cond.fieldLink RX2 16 "OtherNames$People" "rows" "LOtherNames$Rows;", Cond.methodLink RX2 24 yX3_isThere, Cond.instanceMethod yX3_isThere, Cond.selects RX3 yX3_isThere yX3_isThere, Cond.initialized RX3, Cond.code yX3_isThere cX3_isThere 2 (some .boolean), Cond.fieldLink RX3 28 "OtherNames$Rows" "size" "I", Cond.methodLink RX4 178 yX2_headOf, Cond.instanceMethod yX2_headOf, Cond.selects RX2 yX2_headOf yX2_headOf, Cond.code yX2_headOf cX2_headOf 4 (some .int), Cond.methodLink RX2 42 yX3_at, Cond.instanceMethod yX3_at, Cond.selects RX3 yX3_at yX3_at, Cond.code yX3_at cX3_at 3 (some .int), Cond.fieldLink RX3 24 "OtherNames$Rows" "cells" "[I", Cond.fieldLink RX3 21 "OtherNames$Rows" "width" "I"]
def wsX4_look_r2 : List Cond := [Cond.methodLink RX3 35 yX3_hasCell, Cond.instanceMethod yX3_hasCell, Cond.selects RX3 yX3_hasCell yX3_hasCell, Cond.code yX3_hasCell cX3_hasCell 3 (some .boolean), Cond.methodLink RX4 181 yX2_holderOf, Cond.instanceMethod yX2_holderOf, Cond.selects RX2 yX2_holderOf yX2_holderOf, Cond.code yX2_holderOf cX2_holderOf 2 (some .int), Cond.methodLink RX4 77 yX2_isStruckOut, Cond.instanceMethod yX2_isStruckOut, Cond.selects RX2 yX2_isStruckOut yX2_isStruckOut, Cond.code yX2_isStruckOut cX2_isStruckOut 2 (some .boolean), Cond.methodLink RX4 108 yX4_oneIf, Cond.static yX4_oneIf, Cond.initialized RX4, Cond.code yX4_oneIf cX4_oneIf 1 (some .int), Cond.methodLink RX4 184 yX1_countOwnedBy, Cond.instanceMethod yX1_countOwnedBy, Cond.selects RX1 yX1_countOwnedBy yX1_countOwnedBy, Cond.initialized RX1, Cond.code yX1_countOwnedBy cX1_countOwnedBy 2 (some .int), Cond.methodLink RX1 58 yX1_countWith, Cond.instanceMethod yX1_countWith, Cond.selects RX1 yX1_countWith yX1_countWith]
def wsX4_look_r3 : List Cond := [Cond.code yX1_countWith cX1_countWith 5 (some .int), Cond.fieldLink RX1 16 "OtherNames$Names" "rows" "LOtherNames$Rows;", Cond.methodLink RX1 24 yX3_size, Cond.instanceMethod yX3_size, Cond.selects RX3 yX3_size yX3_size, Cond.code yX3_size cX3_size 1 (some .int), Cond.methodLink RX1 28 yX3_at, Cond.methodLink RX4 187 yX2_markOf, Cond.instanceMethod yX2_markOf, Cond.selects RX2 yX2_markOf yX2_markOf, Cond.code yX2_markOf cX2_markOf 3 (some .int), Cond.methodLink RX2 39 yX2_isMark, Cond.static yX2_isMark, Cond.code yX2_isMark cX2_isMark 1 (some .boolean)]
def wsX4_look : List Cond := .code yX4_look cX4_look 3 (some .int) :: ((wsX4_look_r1 ++ (wsX4_look_r2 ++ wsX4_look_r3)) ++ wsX40 ++ wsX20 ++ wsX30 ++ wsX10)
def wsX4_tellOfHouse_r1 : List Cond := [Cond.fieldLink RX4 19 "OtherNames" "houses" "LOtherNames$Houses;", Cond.fieldLink RX4 28 "OtherNames" "names" "LOtherNames$Names;", Cond.methodLink RX4 73 yX0_isThere, Cond.instanceMethod yX0_isThere, Cond.selects RX0 yX0_isThere yX0_isThere, Cond.initialized RX0, Cond.code yX0_isThere cX0_isThere 2 (some .boolean), Cond.fieldLink RX0 16 "OtherNames$Houses" "rows" "LOtherNames$Rows;", Cond.methodLink RX0 24 yX3_isThere, Cond.instanceMethod yX3_isThere, Cond.selects RX3 yX3_isThere yX3_isThere, Cond.initialized RX3, Cond.code yX3_isThere cX3_isThere 2 (some .boolean), Cond.fieldLink RX3 28 "OtherNames$Rows" "size" "I", Cond.methodLink RX4 199 yX1_countGivenBy, Cond.instanceMethod yX1_countGivenBy, Cond.selects RX1 yX1_countGivenBy yX1_countGivenBy, Cond.initialized RX1, Cond.code yX1_countGivenBy cX1_countGivenBy 2 (some .int), Cond.methodLink RX1 58 yX1_countWith, Cond.instanceMethod yX1_countWith, Cond.selects RX1 yX1_countWith yX1_countWith, Cond.code yX1_countWith cX1_countWith 5 (some .int), Cond.fieldLink RX1 16 "OtherNames$Names" "rows" "LOtherNames$Rows;"]
def wsX4_tellOfHouse_r2 : List Cond := [Cond.methodLink RX1 24 yX3_size, Cond.instanceMethod yX3_size, Cond.selects RX3 yX3_size yX3_size, Cond.code yX3_size cX3_size 1 (some .int), Cond.methodLink RX1 28 yX3_at, Cond.instanceMethod yX3_at, Cond.selects RX3 yX3_at yX3_at, Cond.code yX3_at cX3_at 3 (some .int), Cond.fieldLink RX3 24 "OtherNames$Rows" "cells" "[I", Cond.fieldLink RX3 21 "OtherNames$Rows" "width" "I", Cond.methodLink RX3 35 yX3_hasCell, Cond.instanceMethod yX3_hasCell, Cond.selects RX3 yX3_hasCell yX3_hasCell, Cond.code yX3_hasCell cX3_hasCell 3 (some .boolean), Cond.methodLink RX4 149 yX1_knownTo, Cond.instanceMethod yX1_knownTo, Cond.selects RX1 yX1_knownTo yX1_knownTo, Cond.code yX1_knownTo cX1_knownTo 5 (some .int), Cond.fieldLink RX1 20 "OtherNames$Names" "people" "LOtherNames$People;", Cond.methodLink RX1 46 yX1_ownerAt, Cond.instanceMethod yX1_ownerAt, Cond.selects RX1 yX1_ownerAt yX1_ownerAt, Cond.code yX1_ownerAt cX1_ownerAt 2 (some .int), Cond.methodLink RX1 49 yX2_headOf]
def wsX4_tellOfHouse_r3 : List Cond := [Cond.instanceMethod yX2_headOf, Cond.selects RX2 yX2_headOf yX2_headOf, Cond.initialized RX2, Cond.code yX2_headOf cX2_headOf 4 (some .int), Cond.fieldLink RX2 16 "OtherNames$People" "rows" "LOtherNames$Rows;", Cond.methodLink RX2 42 yX3_at, Cond.methodLink RX1 61 yX2_isStruckOut, Cond.instanceMethod yX2_isStruckOut, Cond.selects RX2 yX2_isStruckOut yX2_isStruckOut, Cond.code yX2_isStruckOut cX2_isStruckOut 2 (some .boolean), Cond.methodLink RX4 155 yJ6_bitCount_0f7a4, Cond.static yJ6_bitCount_0f7a4, Cond.initialized RJ6, Cond.code yJ6_bitCount_0f7a4 cJ6_bitCount_0f7a4 1 (some .int), Cond.constant RJ6 265 (1431655765), Cond.constant RJ6 266 (858993459), Cond.constant RJ6 267 (252645135), Cond.methodLink RX4 133 yX0_isLost, Cond.instanceMethod yX0_isLost, Cond.selects RX0 yX0_isLost yX0_isLost, Cond.code yX0_isLost cX0_isLost 2 (some .boolean), Cond.methodLink RX0 35 yX3_at, Cond.methodLink RX4 108 yX4_oneIf, Cond.static yX4_oneIf]
def wsX4_tellOfHouse_r4 : List Cond := [Cond.initialized RX4, Cond.code yX4_oneIf cX4_oneIf 1 (some .int)]
def wsX4_tellOfHouse : List Cond := .code yX4_tellOfHouse cX4_tellOfHouse 3 (some .int) :: ((wsX4_tellOfHouse_r1 ++ (wsX4_tellOfHouse_r2 ++ (wsX4_tellOfHouse_r3 ++ wsX4_tellOfHouse_r4))) ++ wsX40 ++ wsX00 ++ wsX30 ++ wsX10 ++ wsX20)
def wsX4_tell_r1 : List Cond := [Cond.fieldLink RX4 10 "OtherNames" "people" "LOtherNames$People;", Cond.fieldLink RX4 19 "OtherNames" "houses" "LOtherNames$Houses;", Cond.fieldLink RX4 44 "OtherNames" "today" "I", Cond.fieldLink RX4 28 "OtherNames" "names" "LOtherNames$Names;", Cond.fieldLink RX4 41 "OtherNames" "entries" "LOtherNames$Rows;", Cond.fieldLink RX4 37 "OtherNames" "bridges" "LOtherNames$Rows;", Cond.methodLink RX4 190 yX2_size, Cond.instanceMethod yX2_size, Cond.selects RX2 yX2_size yX2_size, Cond.initialized RX2, Cond.code yX2_size cX2_size 1 (some .int), Cond.fieldLink RX2 16 "OtherNames$People" "rows" "LOtherNames$Rows;", Cond.methodLink RX2 20 yX3_size, Cond.instanceMethod yX3_size, Cond.selects RX3 yX3_size yX3_size, Cond.initialized RX3, Cond.code yX3_size cX3_size 1 (some .int), Cond.fieldLink RX3 28 "OtherNames$Rows" "size" "I", Cond.methodLink RX4 193 yX0_size, Cond.instanceMethod yX0_size, Cond.selects RX0 yX0_size yX0_size, Cond.initialized RX0, Cond.code yX0_size cX0_size 1 (some .int), Cond.fieldLink RX0 16 "OtherNames$Houses" "rows" "LOtherNames$Rows;"]
def wsX4_tell_r2 : List Cond := [Cond.methodLink RX0 20 yX3_size, Cond.methodLink RX4 194 yX1_size, Cond.instanceMethod yX1_size, Cond.selects RX1 yX1_size yX1_size, Cond.initialized RX1, Cond.code yX1_size cX1_size 1 (some .int), Cond.fieldLink RX1 16 "OtherNames$Names" "rows" "LOtherNames$Rows;", Cond.methodLink RX1 24 yX3_size, Cond.methodLink RX4 195 yX3_size, Cond.methodLink RX4 196 yX4_tellOfHouse, Cond.instanceMethod yX4_tellOfHouse, Cond.selects RX4 yX4_tellOfHouse yX4_tellOfHouse, Cond.initialized RX4, Cond.code yX4_tellOfHouse cX4_tellOfHouse 3 (some .int), Cond.methodLink RX4 73 yX0_isThere, Cond.instanceMethod yX0_isThere, Cond.selects RX0 yX0_isThere yX0_isThere, Cond.code yX0_isThere cX0_isThere 2 (some .boolean), Cond.methodLink RX0 24 yX3_isThere, Cond.instanceMethod yX3_isThere, Cond.selects RX3 yX3_isThere yX3_isThere, Cond.code yX3_isThere cX3_isThere 2 (some .boolean), Cond.methodLink RX4 199 yX1_countGivenBy, Cond.instanceMethod yX1_countGivenBy]
def wsX4_tell_r3 : List Cond := [Cond.selects RX1 yX1_countGivenBy yX1_countGivenBy, Cond.code yX1_countGivenBy cX1_countGivenBy 2 (some .int), Cond.methodLink RX1 58 yX1_countWith, Cond.instanceMethod yX1_countWith, Cond.selects RX1 yX1_countWith yX1_countWith, Cond.code yX1_countWith cX1_countWith 5 (some .int), Cond.methodLink RX1 28 yX3_at, Cond.instanceMethod yX3_at, Cond.selects RX3 yX3_at yX3_at, Cond.code yX3_at cX3_at 3 (some .int), Cond.fieldLink RX3 24 "OtherNames$Rows" "cells" "[I", Cond.fieldLink RX3 21 "OtherNames$Rows" "width" "I", Cond.methodLink RX3 35 yX3_hasCell, Cond.instanceMethod yX3_hasCell, Cond.selects RX3 yX3_hasCell yX3_hasCell, Cond.code yX3_hasCell cX3_hasCell 3 (some .boolean), Cond.methodLink RX4 149 yX1_knownTo, Cond.instanceMethod yX1_knownTo, Cond.selects RX1 yX1_knownTo yX1_knownTo, Cond.code yX1_knownTo cX1_knownTo 5 (some .int), Cond.fieldLink RX1 20 "OtherNames$Names" "people" "LOtherNames$People;", Cond.methodLink RX1 46 yX1_ownerAt, Cond.instanceMethod yX1_ownerAt, Cond.selects RX1 yX1_ownerAt yX1_ownerAt]
def wsX4_tell_r4 : List Cond := [Cond.code yX1_ownerAt cX1_ownerAt 2 (some .int), Cond.methodLink RX1 49 yX2_headOf, Cond.instanceMethod yX2_headOf, Cond.selects RX2 yX2_headOf yX2_headOf, Cond.code yX2_headOf cX2_headOf 4 (some .int), Cond.methodLink RX2 42 yX3_at, Cond.methodLink RX1 61 yX2_isStruckOut, Cond.instanceMethod yX2_isStruckOut, Cond.selects RX2 yX2_isStruckOut yX2_isStruckOut, Cond.code yX2_isStruckOut cX2_isStruckOut 2 (some .boolean), Cond.methodLink RX4 155 yJ6_bitCount_0f7a4, Cond.static yJ6_bitCount_0f7a4, Cond.initialized RJ6, Cond.code yJ6_bitCount_0f7a4 cJ6_bitCount_0f7a4 1 (some .int), Cond.constant RJ6 265 (1431655765), Cond.constant RJ6 266 (858993459), Cond.constant RJ6 267 (252645135), Cond.methodLink RX4 133 yX0_isLost, Cond.instanceMethod yX0_isLost, Cond.selects RX0 yX0_isLost yX0_isLost, Cond.code yX0_isLost cX0_isLost 2 (some .boolean), Cond.methodLink RX0 35 yX3_at, Cond.methodLink RX4 108 yX4_oneIf, Cond.static yX4_oneIf]
def wsX4_tell_r5 : List Cond := [Cond.code yX4_oneIf cX4_oneIf 1 (some .int)]
def wsX4_tell : List Cond := .code yX4_tell cX4_tell 2 (some .int) :: ((wsX4_tell_r1 ++ (wsX4_tell_r2 ++ (wsX4_tell_r3 ++ (wsX4_tell_r4 ++ wsX4_tell_r5)))) ++ wsX40 ++ wsX20 ++ wsX30 ++ wsX00 ++ wsX10)
def wsX5_init_r1 : List Cond := [Cond.methodLink RX5 1 objectInit, Cond.instanceMethod objectInit, Cond.code objectInit ⟨#[0xb1]⟩ 1 none, Cond.arrayClass .int, Cond.fieldLink RX5 7 "OtherNamesModel" "marks" "[I", Cond.fieldLink RX5 13 "OtherNamesModel" "within" "[I", Cond.arrayClass .boolean, Cond.fieldLink RX5 16 "OtherNamesModel" "isStruck" "[Z", Cond.fieldLink RX5 20 "OtherNamesModel" "kind" "[I", Cond.fieldLink RX5 23 "OtherNamesModel" "span" "[I", Cond.fieldLink RX5 26 "OtherNamesModel" "seed" "[I", Cond.fieldLink RX5 29 "OtherNamesModel" "reasons" "[I", Cond.fieldLink RX5 32 "OtherNamesModel" "leastOf" "[I", Cond.fieldLink RX5 35 "OtherNamesModel" "many" "[I", Cond.fieldLink RX5 38 "OtherNamesModel" "isLost" "[Z", Cond.fieldLink RX5 41 "OtherNamesModel" "nameHouse" "[I", Cond.fieldLink RX5 44 "OtherNamesModel" "nameOf" "[I", Cond.fieldLink RX5 47 "OtherNamesModel" "owner" "[I", Cond.fieldLink RX5 50 "OtherNamesModel" "nameDay" "[I", Cond.fieldLink RX5 53 "OtherNamesModel" "nameSpan" "[I", Cond.fieldLink RX5 56 "OtherNamesModel" "bridgeFrom" "[I", Cond.fieldLink RX5 59 "OtherNamesModel" "bridgeTo" "[I", Cond.fieldLink RX5 62 "OtherNamesModel" "bridgeFirst" "[I", Cond.fieldLink RX5 65 "OtherNamesModel" "bridgeLast" "[I"]
def wsX5_init_r2 : List Cond := [Cond.fieldLink RX5 68 "OtherNamesModel" "entry" "[I"]
def wsX5_init : List Cond := .code yX5_init cX5_init 1 none :: ((wsX5_init_r1 ++ wsX5_init_r2) ++ wsX50)
def wsX5_in : List Cond := .code yX5_in cX5_in 3 (some .boolean) :: ([])
def wsX5_isPerson : List Cond := .code yX5_isPerson cX5_isPerson 2 (some .boolean) :: ([.fieldLink RX5 71 "OtherNamesModel" "people" "I"] ++ wsX50)
def wsX5_isMark : List Cond := .code yX5_isMark cX5_isMark 1 (some .boolean) :: ([])
def wsX5_person : List Cond := .code yX5_person cX5_person 5 (some .int) :: ([.fieldLink RX5 71 "OtherNamesModel" "people" "I", .fieldLink RX5 7 "OtherNamesModel" "marks" "[I", .fieldLink RX5 13 "OtherNamesModel" "within" "[I", .methodLink RX5 75 yX5_isMark, .static yX5_isMark, .initialized RX5, .code yX5_isMark cX5_isMark 1 (some .boolean)] ++ wsX50)
def wsX5_mark : List Cond := .code yX5_mark cX5_mark 4 (some .boolean) :: ([.fieldLink RX5 7 "OtherNamesModel" "marks" "[I", .methodLink RX5 79 yX5_isPerson, .instanceMethod yX5_isPerson, .selects RX5 yX5_isPerson yX5_isPerson, .initialized RX5, .code yX5_isPerson cX5_isPerson 2 (some .boolean), .fieldLink RX5 71 "OtherNamesModel" "people" "I", .methodLink RX5 82 yX5_in, .static yX5_in, .code yX5_in cX5_in 3 (some .boolean), .methodLink RX5 75 yX5_isMark, .static yX5_isMark, .code yX5_isMark cX5_isMark 1 (some .boolean)] ++ wsX50)
def wsX5_head : List Cond := .code yX5_head cX5_head 3 (some .int) :: ([.fieldLink RX5 13 "OtherNamesModel" "within" "[I"] ++ wsX50)
def wsX5_strikes : List Cond := .code yX5_strikes cX5_strikes 3 none :: ([.fieldLink RX5 71 "OtherNamesModel" "people" "I", .fieldLink RX5 16 "OtherNamesModel" "isStruck" "[Z", .methodLink RX5 86 yX5_head, .instanceMethod yX5_head, .selects RX5 yX5_head yX5_head, .initialized RX5, .code yX5_head cX5_head 3 (some .int), .fieldLink RX5 13 "OtherNamesModel" "within" "[I"] ++ wsX50)
def wsX5_one : List Cond := .code yX5_one cX5_one 4 (some .boolean) :: ([.fieldLink RX5 13 "OtherNamesModel" "within" "[I", .fieldLink RX5 16 "OtherNamesModel" "isStruck" "[Z", .methodLink RX5 79 yX5_isPerson, .instanceMethod yX5_isPerson, .selects RX5 yX5_isPerson yX5_isPerson, .initialized RX5, .code yX5_isPerson cX5_isPerson 2 (some .boolean), .fieldLink RX5 71 "OtherNamesModel" "people" "I", .methodLink RX5 90 yX5_strikes, .instanceMethod yX5_strikes, .selects RX5 yX5_strikes yX5_strikes, .code yX5_strikes cX5_strikes 3 none, .methodLink RX5 86 yX5_head, .instanceMethod yX5_head, .selects RX5 yX5_head yX5_head, .code yX5_head cX5_head 3 (some .int)] ++ wsX50)
def wsX5_part : List Cond := .code yX5_part cX5_part 2 (some .boolean) :: ([.fieldLink RX5 13 "OtherNamesModel" "within" "[I", .methodLink RX5 79 yX5_isPerson, .instanceMethod yX5_isPerson, .selects RX5 yX5_isPerson yX5_isPerson, .initialized RX5, .code yX5_isPerson cX5_isPerson 2 (some .boolean), .fieldLink RX5 71 "OtherNamesModel" "people" "I"] ++ wsX50)
def wsX5_strike : List Cond := .code yX5_strike cX5_strike 2 (some .boolean) :: ([.fieldLink RX5 16 "OtherNamesModel" "isStruck" "[Z", .methodLink RX5 79 yX5_isPerson, .instanceMethod yX5_isPerson, .selects RX5 yX5_isPerson yX5_isPerson, .initialized RX5, .code yX5_isPerson cX5_isPerson 2 (some .boolean), .fieldLink RX5 71 "OtherNamesModel" "people" "I", .methodLink RX5 86 yX5_head, .instanceMethod yX5_head, .selects RX5 yX5_head yX5_head, .code yX5_head cX5_head 3 (some .int), .fieldLink RX5 13 "OtherNamesModel" "within" "[I", .methodLink RX5 90 yX5_strikes, .instanceMethod yX5_strikes, .selects RX5 yX5_strikes yX5_strikes, .code yX5_strikes cX5_strikes 3 none] ++ wsX50)
def wsX5_day : List Cond := .code yX5_day cX5_day 2 (some .boolean) :: ([.fieldLink RX5 94 "OtherNamesModel" "now" "I"] ++ wsX50)
def wsX5_isHouse : List Cond := .code yX5_isHouse cX5_isHouse 2 (some .boolean) :: ([.fieldLink RX5 97 "OtherNamesModel" "houses" "I"] ++ wsX50)
def wsX5_house : List Cond := .code yX5_house cX5_house 6 (some .int) :: ([.fieldLink RX5 97 "OtherNamesModel" "houses" "I", .fieldLink RX5 20 "OtherNamesModel" "kind" "[I", .fieldLink RX5 23 "OtherNamesModel" "span" "[I", .fieldLink RX5 26 "OtherNamesModel" "seed" "[I", .fieldLink RX5 29 "OtherNamesModel" "reasons" "[I", .fieldLink RX5 32 "OtherNamesModel" "leastOf" "[I", .methodLink RX5 82 yX5_in, .static yX5_in, .initialized RX5, .code yX5_in cX5_in 3 (some .boolean)] ++ wsX50)
def wsX5_spanNow : List Cond := .code yX5_spanNow cX5_spanNow 2 (some .int) :: ([.fieldLink RX5 20 "OtherNamesModel" "kind" "[I", .fieldLink RX5 94 "OtherNamesModel" "now" "I", .fieldLink RX5 23 "OtherNamesModel" "span" "[I"] ++ wsX50)
def wsX5_firstOf : List Cond := .code yX5_firstOf cX5_firstOf 5 (some .int) :: ([.fieldLink RX5 100 "OtherNamesModel" "names" "I", .fieldLink RX5 41 "OtherNamesModel" "nameHouse" "[I", .fieldLink RX5 53 "OtherNamesModel" "nameSpan" "[I", .fieldLink RX5 47 "OtherNamesModel" "owner" "[I", .methodLink RX5 86 yX5_head, .instanceMethod yX5_head, .selects RX5 yX5_head yX5_head, .initialized RX5, .code yX5_head cX5_head 3 (some .int), .fieldLink RX5 13 "OtherNamesModel" "within" "[I"] ++ wsX50)
def wsX5_find : List Cond := .code yX5_find cX5_find 4 (some .int) :: ([.fieldLink RX5 100 "OtherNamesModel" "names" "I", .fieldLink RX5 41 "OtherNamesModel" "nameHouse" "[I", .fieldLink RX5 44 "OtherNamesModel" "nameOf" "[I"] ++ wsX50)
def wsX5_namesOf_r1 : List Cond := [Cond.fieldLink RX5 20 "OtherNamesModel" "kind" "[I", Cond.fieldLink RX5 100 "OtherNamesModel" "names" "I", Cond.fieldLink RX5 35 "OtherNamesModel" "many" "[I", Cond.fieldLink RX5 41 "OtherNamesModel" "nameHouse" "[I", Cond.fieldLink RX5 44 "OtherNamesModel" "nameOf" "[I", Cond.fieldLink RX5 26 "OtherNamesModel" "seed" "[I", Cond.fieldLink RX5 47 "OtherNamesModel" "owner" "[I", Cond.fieldLink RX5 50 "OtherNamesModel" "nameDay" "[I", Cond.fieldLink RX5 94 "OtherNamesModel" "now" "I", Cond.fieldLink RX5 53 "OtherNamesModel" "nameSpan" "[I", Cond.methodLink RX5 86 yX5_head, Cond.instanceMethod yX5_head, Cond.selects RX5 yX5_head yX5_head, Cond.initialized RX5, Cond.code yX5_head cX5_head 3 (some .int), Cond.fieldLink RX5 13 "OtherNamesModel" "within" "[I", Cond.methodLink RX5 103 yX5_spanNow, Cond.instanceMethod yX5_spanNow, Cond.selects RX5 yX5_spanNow yX5_spanNow, Cond.code yX5_spanNow cX5_spanNow 2 (some .int), Cond.fieldLink RX5 23 "OtherNamesModel" "span" "[I", Cond.methodLink RX5 106 yX5_firstOf, Cond.instanceMethod yX5_firstOf, Cond.selects RX5 yX5_firstOf yX5_firstOf]
def wsX5_namesOf_r2 : List Cond := [Cond.code yX5_firstOf cX5_firstOf 5 (some .int)]
def wsX5_namesOf : List Cond := .code yX5_namesOf cX5_namesOf 5 (some .int) :: ((wsX5_namesOf_r1 ++ wsX5_namesOf_r2) ++ wsX50)
def wsX5_name_r1 : List Cond := [Cond.fieldLink RX5 16 "OtherNamesModel" "isStruck" "[Z", Cond.fieldLink RX5 44 "OtherNamesModel" "nameOf" "[I", Cond.methodLink RX5 110 yX5_isHouse, Cond.instanceMethod yX5_isHouse, Cond.selects RX5 yX5_isHouse yX5_isHouse, Cond.initialized RX5, Cond.code yX5_isHouse cX5_isHouse 2 (some .boolean), Cond.fieldLink RX5 97 "OtherNamesModel" "houses" "I", Cond.methodLink RX5 79 yX5_isPerson, Cond.instanceMethod yX5_isPerson, Cond.selects RX5 yX5_isPerson yX5_isPerson, Cond.code yX5_isPerson cX5_isPerson 2 (some .boolean), Cond.fieldLink RX5 71 "OtherNamesModel" "people" "I", Cond.methodLink RX5 113 yX5_namesOf, Cond.instanceMethod yX5_namesOf, Cond.selects RX5 yX5_namesOf yX5_namesOf, Cond.code yX5_namesOf cX5_namesOf 5 (some .int), Cond.fieldLink RX5 20 "OtherNamesModel" "kind" "[I", Cond.fieldLink RX5 100 "OtherNamesModel" "names" "I", Cond.fieldLink RX5 35 "OtherNamesModel" "many" "[I", Cond.fieldLink RX5 41 "OtherNamesModel" "nameHouse" "[I", Cond.fieldLink RX5 26 "OtherNamesModel" "seed" "[I", Cond.fieldLink RX5 47 "OtherNamesModel" "owner" "[I", Cond.fieldLink RX5 50 "OtherNamesModel" "nameDay" "[I"]
def wsX5_name_r2 : List Cond := [Cond.fieldLink RX5 94 "OtherNamesModel" "now" "I", Cond.fieldLink RX5 53 "OtherNamesModel" "nameSpan" "[I", Cond.methodLink RX5 86 yX5_head, Cond.instanceMethod yX5_head, Cond.selects RX5 yX5_head yX5_head, Cond.code yX5_head cX5_head 3 (some .int), Cond.fieldLink RX5 13 "OtherNamesModel" "within" "[I", Cond.methodLink RX5 103 yX5_spanNow, Cond.instanceMethod yX5_spanNow, Cond.selects RX5 yX5_spanNow yX5_spanNow, Cond.code yX5_spanNow cX5_spanNow 2 (some .int), Cond.fieldLink RX5 23 "OtherNamesModel" "span" "[I", Cond.methodLink RX5 106 yX5_firstOf, Cond.instanceMethod yX5_firstOf, Cond.selects RX5 yX5_firstOf yX5_firstOf, Cond.code yX5_firstOf cX5_firstOf 5 (some .int)]
def wsX5_name : List Cond := .code yX5_name cX5_name 4 (some .int) :: ((wsX5_name_r1 ++ wsX5_name_r2) ++ wsX50)
def wsX5_leads_r1 : List Cond := [Cond.fieldLink RX5 20 "OtherNamesModel" "kind" "[I", Cond.fieldLink RX5 44 "OtherNamesModel" "nameOf" "[I", Cond.fieldLink RX5 53 "OtherNamesModel" "nameSpan" "[I", Cond.fieldLink RX5 47 "OtherNamesModel" "owner" "[I", Cond.methodLink RX5 110 yX5_isHouse, Cond.instanceMethod yX5_isHouse, Cond.selects RX5 yX5_isHouse yX5_isHouse, Cond.initialized RX5, Cond.code yX5_isHouse cX5_isHouse 2 (some .boolean), Cond.fieldLink RX5 97 "OtherNamesModel" "houses" "I", Cond.methodLink RX5 117 yX5_find, Cond.instanceMethod yX5_find, Cond.selects RX5 yX5_find yX5_find, Cond.code yX5_find cX5_find 4 (some .int), Cond.fieldLink RX5 100 "OtherNamesModel" "names" "I", Cond.fieldLink RX5 41 "OtherNamesModel" "nameHouse" "[I", Cond.methodLink RX5 86 yX5_head, Cond.instanceMethod yX5_head, Cond.selects RX5 yX5_head yX5_head, Cond.code yX5_head cX5_head 3 (some .int), Cond.fieldLink RX5 13 "OtherNamesModel" "within" "[I", Cond.methodLink RX5 106 yX5_firstOf, Cond.instanceMethod yX5_firstOf, Cond.selects RX5 yX5_firstOf yX5_firstOf]
def wsX5_leads_r2 : List Cond := [Cond.code yX5_firstOf cX5_firstOf 5 (some .int)]
def wsX5_leads : List Cond := .code yX5_leads cX5_leads 4 (some .int) :: ((wsX5_leads_r1 ++ wsX5_leads_r2) ++ wsX50)
def wsX5_bridge : List Cond := .code yX5_bridge cX5_bridge 5 (some .boolean) :: ([.fieldLink RX5 120 "OtherNamesModel" "bridges" "I", .fieldLink RX5 56 "OtherNamesModel" "bridgeFrom" "[I", .fieldLink RX5 59 "OtherNamesModel" "bridgeTo" "[I", .fieldLink RX5 62 "OtherNamesModel" "bridgeFirst" "[I", .fieldLink RX5 65 "OtherNamesModel" "bridgeLast" "[I", .methodLink RX5 110 yX5_isHouse, .instanceMethod yX5_isHouse, .selects RX5 yX5_isHouse yX5_isHouse, .initialized RX5, .code yX5_isHouse cX5_isHouse 2 (some .boolean), .fieldLink RX5 97 "OtherNamesModel" "houses" "I"] ++ wsX50)
def wsX5_isHeld : List Cond := .code yX5_isHeld cX5_isHeld 5 (some .boolean) :: ([.fieldLink RX5 120 "OtherNamesModel" "bridges" "I", .fieldLink RX5 56 "OtherNamesModel" "bridgeFrom" "[I", .fieldLink RX5 59 "OtherNamesModel" "bridgeTo" "[I", .fieldLink RX5 62 "OtherNamesModel" "bridgeFirst" "[I", .fieldLink RX5 65 "OtherNamesModel" "bridgeLast" "[I"] ++ wsX50)
def wsX5_holds : List Cond := .code yX5_holds cX5_holds 4 (some .int) :: ([.methodLink RX5 110 yX5_isHouse, .instanceMethod yX5_isHouse, .selects RX5 yX5_isHouse yX5_isHouse, .initialized RX5, .code yX5_isHouse cX5_isHouse 2 (some .boolean), .fieldLink RX5 97 "OtherNamesModel" "houses" "I", .methodLink RX5 82 yX5_in, .static yX5_in, .code yX5_in cX5_in 3 (some .boolean), .methodLink RX5 123 yX5_isHeld, .instanceMethod yX5_isHeld, .selects RX5 yX5_isHeld yX5_isHeld, .code yX5_isHeld cX5_isHeld 5 (some .boolean), .fieldLink RX5 120 "OtherNamesModel" "bridges" "I", .fieldLink RX5 56 "OtherNamesModel" "bridgeFrom" "[I", .fieldLink RX5 59 "OtherNamesModel" "bridgeTo" "[I", .fieldLink RX5 62 "OtherNamesModel" "bridgeFirst" "[I", .fieldLink RX5 65 "OtherNamesModel" "bridgeLast" "[I"] ++ wsX50)
def wsX5_writes : List Cond := .code yX5_writes cX5_writes 7 none :: ([.fieldLink RX5 126 "OtherNamesModel" "entries" "I", .fieldLink RX5 68 "OtherNamesModel" "entry" "[I", .fieldLink RX5 94 "OtherNamesModel" "now" "I"] ++ wsX50)
def wsX5_crossed_r1 : List Cond := [Cond.fieldLink RX5 94 "OtherNamesModel" "now" "I", Cond.fieldLink RX5 38 "OtherNamesModel" "isLost" "[Z", Cond.fieldLink RX5 16 "OtherNamesModel" "isStruck" "[Z", Cond.fieldLink RX5 47 "OtherNamesModel" "owner" "[I", Cond.fieldLink RX5 20 "OtherNamesModel" "kind" "[I", Cond.fieldLink RX5 53 "OtherNamesModel" "nameSpan" "[I", Cond.methodLink RX5 117 yX5_find, Cond.instanceMethod yX5_find, Cond.selects RX5 yX5_find yX5_find, Cond.initialized RX5, Cond.code yX5_find cX5_find 4 (some .int), Cond.fieldLink RX5 100 "OtherNamesModel" "names" "I", Cond.fieldLink RX5 41 "OtherNamesModel" "nameHouse" "[I", Cond.fieldLink RX5 44 "OtherNamesModel" "nameOf" "[I", Cond.methodLink RX5 123 yX5_isHeld, Cond.instanceMethod yX5_isHeld, Cond.selects RX5 yX5_isHeld yX5_isHeld, Cond.code yX5_isHeld cX5_isHeld 5 (some .boolean), Cond.fieldLink RX5 120 "OtherNamesModel" "bridges" "I", Cond.fieldLink RX5 56 "OtherNamesModel" "bridgeFrom" "[I", Cond.fieldLink RX5 59 "OtherNamesModel" "bridgeTo" "[I", Cond.fieldLink RX5 62 "OtherNamesModel" "bridgeFirst" "[I", Cond.fieldLink RX5 65 "OtherNamesModel" "bridgeLast" "[I", Cond.methodLink RX5 103 yX5_spanNow]
def wsX5_crossed_r2 : List Cond := [Cond.instanceMethod yX5_spanNow, Cond.selects RX5 yX5_spanNow yX5_spanNow, Cond.code yX5_spanNow cX5_spanNow 2 (some .int), Cond.fieldLink RX5 23 "OtherNamesModel" "span" "[I", Cond.methodLink RX5 113 yX5_namesOf, Cond.instanceMethod yX5_namesOf, Cond.selects RX5 yX5_namesOf yX5_namesOf, Cond.code yX5_namesOf cX5_namesOf 5 (some .int), Cond.fieldLink RX5 35 "OtherNamesModel" "many" "[I", Cond.fieldLink RX5 26 "OtherNamesModel" "seed" "[I", Cond.fieldLink RX5 50 "OtherNamesModel" "nameDay" "[I", Cond.methodLink RX5 86 yX5_head, Cond.instanceMethod yX5_head, Cond.selects RX5 yX5_head yX5_head, Cond.code yX5_head cX5_head 3 (some .int), Cond.fieldLink RX5 13 "OtherNamesModel" "within" "[I", Cond.methodLink RX5 106 yX5_firstOf, Cond.instanceMethod yX5_firstOf, Cond.selects RX5 yX5_firstOf yX5_firstOf, Cond.code yX5_firstOf cX5_firstOf 5 (some .int)]
def wsX5_crossed : List Cond := .code yX5_crossed cX5_crossed 5 (some .int) :: ((wsX5_crossed_r1 ++ wsX5_crossed_r2) ++ wsX50)
def wsX5_cross_r1 : List Cond := [Cond.fieldLink RX5 126 "OtherNamesModel" "entries" "I", Cond.fieldLink RX5 44 "OtherNamesModel" "nameOf" "[I", Cond.methodLink RX5 110 yX5_isHouse, Cond.instanceMethod yX5_isHouse, Cond.selects RX5 yX5_isHouse yX5_isHouse, Cond.initialized RX5, Cond.code yX5_isHouse cX5_isHouse 2 (some .boolean), Cond.fieldLink RX5 97 "OtherNamesModel" "houses" "I", Cond.methodLink RX5 82 yX5_in, Cond.static yX5_in, Cond.code yX5_in cX5_in 3 (some .boolean), Cond.methodLink RX5 129 yX5_crossed, Cond.instanceMethod yX5_crossed, Cond.selects RX5 yX5_crossed yX5_crossed, Cond.code yX5_crossed cX5_crossed 5 (some .int), Cond.fieldLink RX5 94 "OtherNamesModel" "now" "I", Cond.fieldLink RX5 38 "OtherNamesModel" "isLost" "[Z", Cond.fieldLink RX5 16 "OtherNamesModel" "isStruck" "[Z", Cond.fieldLink RX5 47 "OtherNamesModel" "owner" "[I", Cond.fieldLink RX5 20 "OtherNamesModel" "kind" "[I", Cond.fieldLink RX5 53 "OtherNamesModel" "nameSpan" "[I", Cond.methodLink RX5 117 yX5_find, Cond.instanceMethod yX5_find, Cond.selects RX5 yX5_find yX5_find]
def wsX5_cross_r2 : List Cond := [Cond.code yX5_find cX5_find 4 (some .int), Cond.fieldLink RX5 100 "OtherNamesModel" "names" "I", Cond.fieldLink RX5 41 "OtherNamesModel" "nameHouse" "[I", Cond.methodLink RX5 123 yX5_isHeld, Cond.instanceMethod yX5_isHeld, Cond.selects RX5 yX5_isHeld yX5_isHeld, Cond.code yX5_isHeld cX5_isHeld 5 (some .boolean), Cond.fieldLink RX5 120 "OtherNamesModel" "bridges" "I", Cond.fieldLink RX5 56 "OtherNamesModel" "bridgeFrom" "[I", Cond.fieldLink RX5 59 "OtherNamesModel" "bridgeTo" "[I", Cond.fieldLink RX5 62 "OtherNamesModel" "bridgeFirst" "[I", Cond.fieldLink RX5 65 "OtherNamesModel" "bridgeLast" "[I", Cond.methodLink RX5 103 yX5_spanNow, Cond.instanceMethod yX5_spanNow, Cond.selects RX5 yX5_spanNow yX5_spanNow, Cond.code yX5_spanNow cX5_spanNow 2 (some .int), Cond.fieldLink RX5 23 "OtherNamesModel" "span" "[I", Cond.methodLink RX5 113 yX5_namesOf, Cond.instanceMethod yX5_namesOf, Cond.selects RX5 yX5_namesOf yX5_namesOf, Cond.code yX5_namesOf cX5_namesOf 5 (some .int), Cond.fieldLink RX5 35 "OtherNamesModel" "many" "[I", Cond.fieldLink RX5 26 "OtherNamesModel" "seed" "[I", Cond.fieldLink RX5 50 "OtherNamesModel" "nameDay" "[I"]
def wsX5_cross_r3 : List Cond := [Cond.methodLink RX5 86 yX5_head, Cond.instanceMethod yX5_head, Cond.selects RX5 yX5_head yX5_head, Cond.code yX5_head cX5_head 3 (some .int), Cond.fieldLink RX5 13 "OtherNamesModel" "within" "[I", Cond.methodLink RX5 106 yX5_firstOf, Cond.instanceMethod yX5_firstOf, Cond.selects RX5 yX5_firstOf yX5_firstOf, Cond.code yX5_firstOf cX5_firstOf 5 (some .int), Cond.methodLink RX5 132 yX5_writes, Cond.instanceMethod yX5_writes, Cond.selects RX5 yX5_writes yX5_writes, Cond.code yX5_writes cX5_writes 7 none, Cond.fieldLink RX5 68 "OtherNamesModel" "entry" "[I"]
def wsX5_cross : List Cond := .code yX5_cross cX5_cross 6 (some .int) :: ((wsX5_cross_r1 ++ (wsX5_cross_r2 ++ wsX5_cross_r3)) ++ wsX50)
def wsX5_back_r1 : List Cond := [Cond.fieldLink RX5 126 "OtherNamesModel" "entries" "I", Cond.fieldLink RX5 29 "OtherNamesModel" "reasons" "[I", Cond.fieldLink RX5 38 "OtherNamesModel" "isLost" "[Z", Cond.fieldLink RX5 16 "OtherNamesModel" "isStruck" "[Z", Cond.fieldLink RX5 47 "OtherNamesModel" "owner" "[I", Cond.methodLink RX5 110 yX5_isHouse, Cond.instanceMethod yX5_isHouse, Cond.selects RX5 yX5_isHouse yX5_isHouse, Cond.initialized RX5, Cond.code yX5_isHouse cX5_isHouse 2 (some .boolean), Cond.fieldLink RX5 97 "OtherNamesModel" "houses" "I", Cond.methodLink RX5 82 yX5_in, Cond.static yX5_in, Cond.code yX5_in cX5_in 3 (some .boolean), Cond.methodLink RX5 117 yX5_find, Cond.instanceMethod yX5_find, Cond.selects RX5 yX5_find yX5_find, Cond.code yX5_find cX5_find 4 (some .int), Cond.fieldLink RX5 100 "OtherNamesModel" "names" "I", Cond.fieldLink RX5 41 "OtherNamesModel" "nameHouse" "[I", Cond.fieldLink RX5 44 "OtherNamesModel" "nameOf" "[I", Cond.methodLink RX5 132 yX5_writes, Cond.instanceMethod yX5_writes, Cond.selects RX5 yX5_writes yX5_writes]
def wsX5_back_r2 : List Cond := [Cond.code yX5_writes cX5_writes 7 none, Cond.fieldLink RX5 68 "OtherNamesModel" "entry" "[I", Cond.fieldLink RX5 94 "OtherNamesModel" "now" "I", Cond.methodLink RX5 86 yX5_head, Cond.instanceMethod yX5_head, Cond.selects RX5 yX5_head yX5_head, Cond.code yX5_head cX5_head 3 (some .int), Cond.fieldLink RX5 13 "OtherNamesModel" "within" "[I"]
def wsX5_back : List Cond := .code yX5_back cX5_back 8 (some .int) :: ((wsX5_back_r1 ++ wsX5_back_r2) ++ wsX50)
def wsX5_lose : List Cond := .code yX5_lose cX5_lose 2 (some .boolean) :: ([.fieldLink RX5 38 "OtherNamesModel" "isLost" "[Z", .methodLink RX5 110 yX5_isHouse, .instanceMethod yX5_isHouse, .selects RX5 yX5_isHouse yX5_isHouse, .initialized RX5, .code yX5_isHouse cX5_isHouse 2 (some .boolean), .fieldLink RX5 97 "OtherNamesModel" "houses" "I"] ++ wsX50)
def wsX5_anew : List Cond := .code yX5_anew cX5_anew 3 (some .boolean) :: ([.fieldLink RX5 38 "OtherNamesModel" "isLost" "[Z", .fieldLink RX5 26 "OtherNamesModel" "seed" "[I", .methodLink RX5 110 yX5_isHouse, .instanceMethod yX5_isHouse, .selects RX5 yX5_isHouse yX5_isHouse, .initialized RX5, .code yX5_isHouse cX5_isHouse 2 (some .boolean), .fieldLink RX5 97 "OtherNamesModel" "houses" "I"] ++ wsX50)
def wsX5_record : List Cond := .code yX5_record cX5_record 3 (some .int) :: ([.fieldLink RX5 126 "OtherNamesModel" "entries" "I", .fieldLink RX5 68 "OtherNamesModel" "entry" "[I", .methodLink RX5 82 yX5_in, .static yX5_in, .initialized RX5, .code yX5_in cX5_in 3 (some .boolean)] ++ wsX50)
def wsX5_knows : List Cond := .code yX5_knows cX5_knows 4 (some .boolean) :: ([.fieldLink RX5 16 "OtherNamesModel" "isStruck" "[Z", .fieldLink RX5 100 "OtherNamesModel" "names" "I", .fieldLink RX5 41 "OtherNamesModel" "nameHouse" "[I", .fieldLink RX5 47 "OtherNamesModel" "owner" "[I", .methodLink RX5 86 yX5_head, .instanceMethod yX5_head, .selects RX5 yX5_head yX5_head, .initialized RX5, .code yX5_head cX5_head 3 (some .int), .fieldLink RX5 13 "OtherNamesModel" "within" "[I"] ++ wsX50)
def wsX5_areAlike : List Cond := .code yX5_areAlike cX5_areAlike 6 (some .boolean) :: ([.fieldLink RX5 7 "OtherNamesModel" "marks" "[I"] ++ wsX50)
def wsX5_group : List Cond := .code yX5_group cX5_group 6 (some .int) :: ([.fieldLink RX5 71 "OtherNamesModel" "people" "I", .methodLink RX5 136 yX5_knows, .instanceMethod yX5_knows, .selects RX5 yX5_knows yX5_knows, .initialized RX5, .code yX5_knows cX5_knows 4 (some .boolean), .fieldLink RX5 16 "OtherNamesModel" "isStruck" "[Z", .fieldLink RX5 100 "OtherNamesModel" "names" "I", .fieldLink RX5 41 "OtherNamesModel" "nameHouse" "[I", .fieldLink RX5 47 "OtherNamesModel" "owner" "[I", .methodLink RX5 86 yX5_head, .instanceMethod yX5_head, .selects RX5 yX5_head yX5_head, .code yX5_head cX5_head 3 (some .int), .fieldLink RX5 13 "OtherNamesModel" "within" "[I", .methodLink RX5 140 yX5_areAlike, .instanceMethod yX5_areAlike, .selects RX5 yX5_areAlike yX5_areAlike, .code yX5_areAlike cX5_areAlike 6 (some .boolean), .fieldLink RX5 7 "OtherNamesModel" "marks" "[I"] ++ wsX50)
def wsX5_joins_r1 : List Cond := [Cond.fieldLink RX5 71 "OtherNamesModel" "people" "I", Cond.methodLink RX5 110 yX5_isHouse, Cond.instanceMethod yX5_isHouse, Cond.selects RX5 yX5_isHouse yX5_isHouse, Cond.initialized RX5, Cond.code yX5_isHouse cX5_isHouse 2 (some .boolean), Cond.fieldLink RX5 97 "OtherNamesModel" "houses" "I", Cond.methodLink RX5 82 yX5_in, Cond.static yX5_in, Cond.code yX5_in cX5_in 3 (some .boolean), Cond.methodLink RX5 136 yX5_knows, Cond.instanceMethod yX5_knows, Cond.selects RX5 yX5_knows yX5_knows, Cond.code yX5_knows cX5_knows 4 (some .boolean), Cond.fieldLink RX5 16 "OtherNamesModel" "isStruck" "[Z", Cond.fieldLink RX5 100 "OtherNamesModel" "names" "I", Cond.fieldLink RX5 41 "OtherNamesModel" "nameHouse" "[I", Cond.fieldLink RX5 47 "OtherNamesModel" "owner" "[I", Cond.methodLink RX5 86 yX5_head, Cond.instanceMethod yX5_head, Cond.selects RX5 yX5_head yX5_head, Cond.code yX5_head cX5_head 3 (some .int), Cond.fieldLink RX5 13 "OtherNamesModel" "within" "[I", Cond.methodLink RX5 143 yX5_group]
def wsX5_joins_r2 : List Cond := [Cond.instanceMethod yX5_group, Cond.selects RX5 yX5_group yX5_group, Cond.code yX5_group cX5_group 6 (some .int), Cond.methodLink RX5 140 yX5_areAlike, Cond.instanceMethod yX5_areAlike, Cond.selects RX5 yX5_areAlike yX5_areAlike, Cond.code yX5_areAlike cX5_areAlike 6 (some .boolean), Cond.fieldLink RX5 7 "OtherNamesModel" "marks" "[I"]
def wsX5_joins : List Cond := .code yX5_joins cX5_joins 6 (some .int) :: ((wsX5_joins_r1 ++ wsX5_joins_r2) ++ wsX50)
def wsX5_least_r1 : List Cond := [Cond.fieldLink RX5 71 "OtherNamesModel" "people" "I", Cond.methodLink RX5 110 yX5_isHouse, Cond.instanceMethod yX5_isHouse, Cond.selects RX5 yX5_isHouse yX5_isHouse, Cond.initialized RX5, Cond.code yX5_isHouse cX5_isHouse 2 (some .boolean), Cond.fieldLink RX5 97 "OtherNamesModel" "houses" "I", Cond.methodLink RX5 82 yX5_in, Cond.static yX5_in, Cond.code yX5_in cX5_in 3 (some .boolean), Cond.methodLink RX5 136 yX5_knows, Cond.instanceMethod yX5_knows, Cond.selects RX5 yX5_knows yX5_knows, Cond.code yX5_knows cX5_knows 4 (some .boolean), Cond.fieldLink RX5 16 "OtherNamesModel" "isStruck" "[Z", Cond.fieldLink RX5 100 "OtherNamesModel" "names" "I", Cond.fieldLink RX5 41 "OtherNamesModel" "nameHouse" "[I", Cond.fieldLink RX5 47 "OtherNamesModel" "owner" "[I", Cond.methodLink RX5 86 yX5_head, Cond.instanceMethod yX5_head, Cond.selects RX5 yX5_head yX5_head, Cond.code yX5_head cX5_head 3 (some .int), Cond.fieldLink RX5 13 "OtherNamesModel" "within" "[I", Cond.methodLink RX5 143 yX5_group]
def wsX5_least_r2 : List Cond := [Cond.instanceMethod yX5_group, Cond.selects RX5 yX5_group yX5_group, Cond.code yX5_group cX5_group 6 (some .int), Cond.methodLink RX5 140 yX5_areAlike, Cond.instanceMethod yX5_areAlike, Cond.selects RX5 yX5_areAlike yX5_areAlike, Cond.code yX5_areAlike cX5_areAlike 6 (some .boolean), Cond.fieldLink RX5 7 "OtherNamesModel" "marks" "[I"]
def wsX5_least : List Cond := .code yX5_least cX5_least 6 (some .int) :: ((wsX5_least_r1 ++ wsX5_least_r2) ++ wsX50)
def wsX5_count_r1 : List Cond := [Cond.fieldLink RX5 71 "OtherNamesModel" "people" "I", Cond.fieldLink RX5 7 "OtherNamesModel" "marks" "[I", Cond.fieldLink RX5 32 "OtherNamesModel" "leastOf" "[I", Cond.methodLink RX5 110 yX5_isHouse, Cond.instanceMethod yX5_isHouse, Cond.selects RX5 yX5_isHouse yX5_isHouse, Cond.initialized RX5, Cond.code yX5_isHouse cX5_isHouse 2 (some .boolean), Cond.fieldLink RX5 97 "OtherNamesModel" "houses" "I", Cond.methodLink RX5 82 yX5_in, Cond.static yX5_in, Cond.code yX5_in cX5_in 3 (some .boolean), Cond.methodLink RX5 75 yX5_isMark, Cond.static yX5_isMark, Cond.code yX5_isMark cX5_isMark 1 (some .boolean), Cond.methodLink RX5 136 yX5_knows, Cond.instanceMethod yX5_knows, Cond.selects RX5 yX5_knows yX5_knows, Cond.code yX5_knows cX5_knows 4 (some .boolean), Cond.fieldLink RX5 16 "OtherNamesModel" "isStruck" "[Z", Cond.fieldLink RX5 100 "OtherNamesModel" "names" "I", Cond.fieldLink RX5 41 "OtherNamesModel" "nameHouse" "[I", Cond.fieldLink RX5 47 "OtherNamesModel" "owner" "[I", Cond.methodLink RX5 86 yX5_head]
def wsX5_count_r2 : List Cond := [Cond.instanceMethod yX5_head, Cond.selects RX5 yX5_head yX5_head, Cond.code yX5_head cX5_head 3 (some .int), Cond.fieldLink RX5 13 "OtherNamesModel" "within" "[I"]
def wsX5_count : List Cond := .code yX5_count cX5_count 7 (some .int) :: ((wsX5_count_r1 ++ wsX5_count_r2) ++ wsX50)
def wsX5_given : List Cond := .code yX5_given cX5_given 3 (some .int) :: ([.fieldLink RX5 100 "OtherNamesModel" "names" "I", .fieldLink RX5 41 "OtherNamesModel" "nameHouse" "[I", .fieldLink RX5 44 "OtherNamesModel" "nameOf" "[I", .fieldLink RX5 47 "OtherNamesModel" "owner" "[I", .fieldLink RX5 50 "OtherNamesModel" "nameDay" "[I", .fieldLink RX5 53 "OtherNamesModel" "nameSpan" "[I"] ++ wsX50)
def wsX5_look : List Cond := .code yX5_look cX5_look 5 (some .int) :: ([.fieldLink RX5 13 "OtherNamesModel" "within" "[I", .fieldLink RX5 16 "OtherNamesModel" "isStruck" "[Z", .fieldLink RX5 100 "OtherNamesModel" "names" "I", .fieldLink RX5 47 "OtherNamesModel" "owner" "[I", .fieldLink RX5 7 "OtherNamesModel" "marks" "[I", .methodLink RX5 79 yX5_isPerson, .instanceMethod yX5_isPerson, .selects RX5 yX5_isPerson yX5_isPerson, .initialized RX5, .code yX5_isPerson cX5_isPerson 2 (some .boolean), .fieldLink RX5 71 "OtherNamesModel" "people" "I", .methodLink RX5 86 yX5_head, .instanceMethod yX5_head, .selects RX5 yX5_head yX5_head, .code yX5_head cX5_head 3 (some .int)] ++ wsX50)
def wsX5_known : List Cond := .code yX5_known cX5_known 4 (some .int) :: ([.fieldLink RX5 71 "OtherNamesModel" "people" "I", .methodLink RX5 136 yX5_knows, .instanceMethod yX5_knows, .selects RX5 yX5_knows yX5_knows, .initialized RX5, .code yX5_knows cX5_knows 4 (some .boolean), .fieldLink RX5 16 "OtherNamesModel" "isStruck" "[Z", .fieldLink RX5 100 "OtherNamesModel" "names" "I", .fieldLink RX5 41 "OtherNamesModel" "nameHouse" "[I", .fieldLink RX5 47 "OtherNamesModel" "owner" "[I", .methodLink RX5 86 yX5_head, .instanceMethod yX5_head, .selects RX5 yX5_head yX5_head, .code yX5_head cX5_head 3 (some .int), .fieldLink RX5 13 "OtherNamesModel" "within" "[I"] ++ wsX50)
def wsX5_tell_r1 : List Cond := [Cond.fieldLink RX5 71 "OtherNamesModel" "people" "I", Cond.fieldLink RX5 97 "OtherNamesModel" "houses" "I", Cond.fieldLink RX5 94 "OtherNamesModel" "now" "I", Cond.fieldLink RX5 100 "OtherNamesModel" "names" "I", Cond.fieldLink RX5 126 "OtherNamesModel" "entries" "I", Cond.fieldLink RX5 120 "OtherNamesModel" "bridges" "I", Cond.fieldLink RX5 35 "OtherNamesModel" "many" "[I", Cond.fieldLink RX5 38 "OtherNamesModel" "isLost" "[Z", Cond.methodLink RX5 146 yX5_known, Cond.instanceMethod yX5_known, Cond.selects RX5 yX5_known yX5_known, Cond.initialized RX5, Cond.code yX5_known cX5_known 4 (some .int), Cond.methodLink RX5 136 yX5_knows, Cond.instanceMethod yX5_knows, Cond.selects RX5 yX5_knows yX5_knows, Cond.code yX5_knows cX5_knows 4 (some .boolean), Cond.fieldLink RX5 16 "OtherNamesModel" "isStruck" "[Z", Cond.fieldLink RX5 41 "OtherNamesModel" "nameHouse" "[I", Cond.fieldLink RX5 47 "OtherNamesModel" "owner" "[I", Cond.methodLink RX5 86 yX5_head, Cond.instanceMethod yX5_head, Cond.selects RX5 yX5_head yX5_head, Cond.code yX5_head cX5_head 3 (some .int)]
def wsX5_tell_r2 : List Cond := [Cond.fieldLink RX5 13 "OtherNamesModel" "within" "[I"]
def wsX5_tell : List Cond := .code yX5_tell cX5_tell 2 (some .int) :: ((wsX5_tell_r1 ++ wsX5_tell_r2) ++ wsX50)
def wsJ9_max_7cf53 : List Cond := .code yJ9_max_7cf53 cJ9_max_7cf53 2 (some .int) :: ([])
abbrev vwCl : List vw_C := [(RX0, TX0, 1), (RX1, TX1, 2), (RX2, TX2, 1), (RX3, TX3, 4), (RX4, TX4, 6), (RX5, TX5, 26)]
end
section
set_option maxRecDepth 20000 in
theorem ggX0_init_X3_init : GoodIn wsX0_init wsX3_init := goodIn_r _ [10, 11, 2, 3, 12, 13, 14, 15, 16, 17, 18, 19, 20, 21, 22, 23, 24] (by decide +kernel) (by decide +kernel)
set_option maxRecDepth 20000 in
theorem gX0_init_X3_init : GoodIn wsX0_init (wsX3_init) := ggX0_init_X3_init
theorem dX0_init_0 : decode cX0_init 0 = .ok (.aload_n 0, 1) := by decide +kernel
theorem dX0_init_1 : decode cX0_init 1 = .ok (.invokespecial 3, 3) := by decide +kernel
theorem dX0_init_4 : decode cX0_init 4 = .ok (.aload_n 0, 1) := by decide +kernel
theorem dX0_init_5 : decode cX0_init 5 = .ok (.new 9, 3) := by decide +kernel
theorem dX0_init_8 : decode cX0_init 8 = .ok (.dup, 1) := by decide +kernel
theorem dX0_init_9 : decode cX0_init 9 = .ok (.iconst 5, 1) := by decide +kernel
theorem dX0_init_10 : decode cX0_init 10 = .ok (.bipush 6, 2) := by decide +kernel
theorem dX0_init_12 : decode cX0_init 12 = .ok (.invokespecial 13, 3) := by decide +kernel
theorem dX0_init_15 : decode cX0_init 15 = .ok (.putfield 16, 3) := by decide +kernel
theorem dX0_init_18 : decode cX0_init 18 = .ok (.return_, 1) := by decide +kernel
set_option maxRecDepth 20000 in
theorem ggX0_size_X3_size : GoodIn wsX0_size wsX3_size := goodIn_r _ [6, 7, 9, 10, 11, 12] (by decide +kernel) (by decide +kernel)
set_option maxRecDepth 20000 in
theorem gX0_size_X3_size : GoodIn wsX0_size (wsV RX0 20 RX3 yX3_size wsX3_size) := goodIn_app (goodIn_of _ (by decide +kernel)) ggX0_size_X3_size
theorem dX0_size_0 : decode cX0_size 0 = .ok (.aload_n 0, 1) := by decide +kernel
theorem dX0_size_1 : decode cX0_size 1 = .ok (.getfield 16, 3) := by decide +kernel
theorem dX0_size_4 : decode cX0_size 4 = .ok (.invokevirtual 20, 3) := by decide +kernel
theorem dX0_size_7 : decode cX0_size 7 = .ok (.ireturn, 1) := by decide +kernel
set_option maxRecDepth 20000 in
theorem ggX0_isThere_X3_isThere : GoodIn wsX0_isThere wsX3_isThere := goodIn_r _ [6, 7, 9, 10, 11, 12] (by decide +kernel) (by decide +kernel)
set_option maxRecDepth 20000 in
theorem gX0_isThere_X3_isThere : GoodIn wsX0_isThere (wsV RX0 24 RX3 yX3_isThere wsX3_isThere) := goodIn_app (goodIn_of _ (by decide +kernel)) ggX0_isThere_X3_isThere
theorem dX0_isThere_0 : decode cX0_isThere 0 = .ok (.aload_n 0, 1) := by decide +kernel
theorem dX0_isThere_1 : decode cX0_isThere 1 = .ok (.getfield 16, 3) := by decide +kernel
theorem dX0_isThere_4 : decode cX0_isThere 4 = .ok (.iload_n 1, 1) := by decide +kernel
theorem dX0_isThere_5 : decode cX0_isThere 5 = .ok (.invokevirtual 24, 3) := by decide +kernel
theorem dX0_isThere_8 : decode cX0_isThere 8 = .ok (.ireturn, 1) := by decide +kernel
set_option maxRecDepth 20000 in
theorem ggX0_add_X3_addRow : GoodIn wsX0_add wsX3_addRow := goodIn_r _ [6, 7, 8, 9, 10, 5, 11, 12, 24, 25, 26, 27] (by decide +kernel) (by decide +kernel)
set_option maxRecDepth 20000 in
theorem gX0_add_X3_addRow : GoodIn wsX0_add (wsV RX0 28 RX3 yX3_addRow wsX3_addRow) := goodIn_app (goodIn_of _ (by decide +kernel)) ggX0_add_X3_addRow
set_option maxRecDepth 20000 in
theorem ggX0_add_X3_put : GoodIn wsX0_add wsX3_put := goodIn_r _ [16, 17, 18, 19, 20, 21, 5, 22, 7, 24, 25, 26, 27] (by decide +kernel) (by decide +kernel)
set_option maxRecDepth 20000 in
theorem gX0_add_X3_put : GoodIn wsX0_add (wsV RX0 31 RX3 yX3_put wsX3_put) := goodIn_app (goodIn_of _ (by decide +kernel)) ggX0_add_X3_put
theorem dX0_add_0 : decode cX0_add 0 = .ok (.iload_n 1, 1) := by decide +kernel
theorem dX0_add_1 : decode cX0_add 1 = .ok (.ifCond .lt 32, 3) := by decide +kernel
theorem dX0_add_4 : decode cX0_add 4 = .ok (.iload_n 1, 1) := by decide +kernel
theorem dX0_add_5 : decode cX0_add 5 = .ok (.iconst 2, 1) := by decide +kernel
theorem dX0_add_6 : decode cX0_add 6 = .ok (.if_icmp .gt 27, 3) := by decide +kernel
theorem dX0_add_9 : decode cX0_add 9 = .ok (.iload_n 2, 1) := by decide +kernel
theorem dX0_add_10 : decode cX0_add 10 = .ok (.iconst 1, 1) := by decide +kernel
theorem dX0_add_11 : decode cX0_add 11 = .ok (.if_icmp .lt 22, 3) := by decide +kernel
theorem dX0_add_14 : decode cX0_add 14 = .ok (.iload_n 2, 1) := by decide +kernel
theorem dX0_add_15 : decode cX0_add 15 = .ok (.sipush 365, 3) := by decide +kernel
theorem dX0_add_18 : decode cX0_add 18 = .ok (.if_icmp .gt 15, 3) := by decide +kernel
theorem dX0_add_21 : decode cX0_add 21 = .ok (.iload_n 3, 1) := by decide +kernel
theorem dX0_add_22 : decode cX0_add 22 = .ok (.iconst 1, 1) := by decide +kernel
theorem dX0_add_23 : decode cX0_add 23 = .ok (.if_icmp .lt 10, 3) := by decide +kernel
theorem dX0_add_26 : decode cX0_add 26 = .ok (.iload_n 3, 1) := by decide +kernel
theorem dX0_add_27 : decode cX0_add 27 = .ok (.sipush 9973, 3) := by decide +kernel
theorem dX0_add_30 : decode cX0_add 30 = .ok (.if_icmp .lt 5, 3) := by decide +kernel
theorem dX0_add_33 : decode cX0_add 33 = .ok (.iconst (-1), 1) := by decide +kernel
theorem dX0_add_34 : decode cX0_add 34 = .ok (.ireturn, 1) := by decide +kernel
theorem dX0_add_35 : decode cX0_add 35 = .ok (.iload 4, 2) := by decide +kernel
theorem dX0_add_37 : decode cX0_add 37 = .ok (.ifCond .lt 23, 3) := by decide +kernel
theorem dX0_add_40 : decode cX0_add 40 = .ok (.iload 4, 2) := by decide +kernel
theorem dX0_add_42 : decode cX0_add 42 = .ok (.sipush 255, 3) := by decide +kernel
theorem dX0_add_45 : decode cX0_add 45 = .ok (.if_icmp .gt 15, 3) := by decide +kernel
theorem dX0_add_48 : decode cX0_add 48 = .ok (.iload 5, 2) := by decide +kernel
theorem dX0_add_50 : decode cX0_add 50 = .ok (.ifCond .lt 10, 3) := by decide +kernel
theorem dX0_add_53 : decode cX0_add 53 = .ok (.iload 5, 2) := by decide +kernel
theorem dX0_add_55 : decode cX0_add 55 = .ok (.bipush 24, 2) := by decide +kernel
theorem dX0_add_57 : decode cX0_add 57 = .ok (.if_icmp .le 5, 3) := by decide +kernel
theorem dX0_add_60 : decode cX0_add 60 = .ok (.iconst (-1), 1) := by decide +kernel
theorem dX0_add_61 : decode cX0_add 61 = .ok (.ireturn, 1) := by decide +kernel
theorem dX0_add_62 : decode cX0_add 62 = .ok (.aload_n 0, 1) := by decide +kernel
theorem dX0_add_63 : decode cX0_add 63 = .ok (.getfield 16, 3) := by decide +kernel
theorem dX0_add_66 : decode cX0_add 66 = .ok (.invokevirtual 28, 3) := by decide +kernel
theorem dX0_add_69 : decode cX0_add 69 = .ok (.istore 6, 2) := by decide +kernel
theorem dX0_add_71 : decode cX0_add 71 = .ok (.aload_n 0, 1) := by decide +kernel
theorem dX0_add_72 : decode cX0_add 72 = .ok (.getfield 16, 3) := by decide +kernel
theorem dX0_add_75 : decode cX0_add 75 = .ok (.iload 6, 2) := by decide +kernel
theorem dX0_add_77 : decode cX0_add 77 = .ok (.iconst 0, 1) := by decide +kernel
theorem dX0_add_78 : decode cX0_add 78 = .ok (.iload_n 1, 1) := by decide +kernel
theorem dX0_add_79 : decode cX0_add 79 = .ok (.invokevirtual 31, 3) := by decide +kernel
theorem dX0_add_82 : decode cX0_add 82 = .ok (.aload_n 0, 1) := by decide +kernel
theorem dX0_add_83 : decode cX0_add 83 = .ok (.getfield 16, 3) := by decide +kernel
theorem dX0_add_86 : decode cX0_add 86 = .ok (.iload 6, 2) := by decide +kernel
theorem dX0_add_88 : decode cX0_add 88 = .ok (.iconst 1, 1) := by decide +kernel
theorem dX0_add_89 : decode cX0_add 89 = .ok (.iload_n 2, 1) := by decide +kernel
theorem dX0_add_90 : decode cX0_add 90 = .ok (.invokevirtual 31, 3) := by decide +kernel
theorem dX0_add_93 : decode cX0_add 93 = .ok (.aload_n 0, 1) := by decide +kernel
theorem dX0_add_94 : decode cX0_add 94 = .ok (.getfield 16, 3) := by decide +kernel
theorem dX0_add_97 : decode cX0_add 97 = .ok (.iload 6, 2) := by decide +kernel
theorem dX0_add_99 : decode cX0_add 99 = .ok (.iconst 2, 1) := by decide +kernel
theorem dX0_add_100 : decode cX0_add 100 = .ok (.iload_n 3, 1) := by decide +kernel
theorem dX0_add_101 : decode cX0_add 101 = .ok (.invokevirtual 31, 3) := by decide +kernel
theorem dX0_add_104 : decode cX0_add 104 = .ok (.aload_n 0, 1) := by decide +kernel
theorem dX0_add_105 : decode cX0_add 105 = .ok (.getfield 16, 3) := by decide +kernel
theorem dX0_add_108 : decode cX0_add 108 = .ok (.iload 6, 2) := by decide +kernel
theorem dX0_add_110 : decode cX0_add 110 = .ok (.iconst 3, 1) := by decide +kernel
theorem dX0_add_111 : decode cX0_add 111 = .ok (.iload 4, 2) := by decide +kernel
theorem dX0_add_113 : decode cX0_add 113 = .ok (.invokevirtual 31, 3) := by decide +kernel
theorem dX0_add_116 : decode cX0_add 116 = .ok (.aload_n 0, 1) := by decide +kernel
theorem dX0_add_117 : decode cX0_add 117 = .ok (.getfield 16, 3) := by decide +kernel
theorem dX0_add_120 : decode cX0_add 120 = .ok (.iload 6, 2) := by decide +kernel
theorem dX0_add_122 : decode cX0_add 122 = .ok (.iconst 4, 1) := by decide +kernel
theorem dX0_add_123 : decode cX0_add 123 = .ok (.iload 5, 2) := by decide +kernel
theorem dX0_add_125 : decode cX0_add 125 = .ok (.invokevirtual 31, 3) := by decide +kernel
theorem dX0_add_128 : decode cX0_add 128 = .ok (.aload_n 0, 1) := by decide +kernel
theorem dX0_add_129 : decode cX0_add 129 = .ok (.getfield 16, 3) := by decide +kernel
theorem dX0_add_132 : decode cX0_add 132 = .ok (.iload 6, 2) := by decide +kernel
theorem dX0_add_134 : decode cX0_add 134 = .ok (.iconst 5, 1) := by decide +kernel
theorem dX0_add_135 : decode cX0_add 135 = .ok (.iconst 0, 1) := by decide +kernel
theorem dX0_add_136 : decode cX0_add 136 = .ok (.invokevirtual 31, 3) := by decide +kernel
theorem dX0_add_139 : decode cX0_add 139 = .ok (.iload 6, 2) := by decide +kernel
theorem dX0_add_141 : decode cX0_add 141 = .ok (.ireturn, 1) := by decide +kernel
set_option maxRecDepth 20000 in
theorem ggX0_isSpanned_X3_at : GoodIn wsX0_isSpanned wsX3_at := goodIn_r _ [6, 7, 8, 9, 10, 11, 5, 12, 13, 15, 16, 17, 18] (by decide +kernel) (by decide +kernel)
set_option maxRecDepth 20000 in
theorem gX0_isSpanned_X3_at : GoodIn wsX0_isSpanned (wsV RX0 35 RX3 yX3_at wsX3_at) := goodIn_app (goodIn_of _ (by decide +kernel)) ggX0_isSpanned_X3_at
theorem dX0_isSpanned_0 : decode cX0_isSpanned 0 = .ok (.aload_n 0, 1) := by decide +kernel
theorem dX0_isSpanned_1 : decode cX0_isSpanned 1 = .ok (.getfield 16, 3) := by decide +kernel
theorem dX0_isSpanned_4 : decode cX0_isSpanned 4 = .ok (.iload_n 1, 1) := by decide +kernel
theorem dX0_isSpanned_5 : decode cX0_isSpanned 5 = .ok (.iconst 0, 1) := by decide +kernel
theorem dX0_isSpanned_6 : decode cX0_isSpanned 6 = .ok (.invokevirtual 35, 3) := by decide +kernel
theorem dX0_isSpanned_9 : decode cX0_isSpanned 9 = .ok (.iconst 1, 1) := by decide +kernel
theorem dX0_isSpanned_10 : decode cX0_isSpanned 10 = .ok (.if_icmp .ne 7, 3) := by decide +kernel
theorem dX0_isSpanned_13 : decode cX0_isSpanned 13 = .ok (.iconst 1, 1) := by decide +kernel
theorem dX0_isSpanned_14 : decode cX0_isSpanned 14 = .ok (.goto 4, 3) := by decide +kernel
theorem dX0_isSpanned_17 : decode cX0_isSpanned 17 = .ok (.iconst 0, 1) := by decide +kernel
theorem dX0_isSpanned_18 : decode cX0_isSpanned 18 = .ok (.ireturn, 1) := by decide +kernel
set_option maxRecDepth 20000 in
theorem ggX0_seedOf_X3_at : GoodIn wsX0_seedOf wsX3_at := goodIn_r _ [6, 7, 8, 9, 10, 11, 5, 12, 13, 15, 16, 17, 18] (by decide +kernel) (by decide +kernel)
set_option maxRecDepth 20000 in
theorem gX0_seedOf_X3_at : GoodIn wsX0_seedOf (wsV RX0 35 RX3 yX3_at wsX3_at) := goodIn_app (goodIn_of _ (by decide +kernel)) ggX0_seedOf_X3_at
theorem dX0_seedOf_0 : decode cX0_seedOf 0 = .ok (.aload_n 0, 1) := by decide +kernel
theorem dX0_seedOf_1 : decode cX0_seedOf 1 = .ok (.getfield 16, 3) := by decide +kernel
theorem dX0_seedOf_4 : decode cX0_seedOf 4 = .ok (.iload_n 1, 1) := by decide +kernel
theorem dX0_seedOf_5 : decode cX0_seedOf 5 = .ok (.iconst 2, 1) := by decide +kernel
theorem dX0_seedOf_6 : decode cX0_seedOf 6 = .ok (.invokevirtual 35, 3) := by decide +kernel
theorem dX0_seedOf_9 : decode cX0_seedOf 9 = .ok (.ireturn, 1) := by decide +kernel
set_option maxRecDepth 20000 in
theorem ggX0_leastOf_X3_at : GoodIn wsX0_leastOf wsX3_at := goodIn_r _ [6, 7, 8, 9, 10, 11, 5, 12, 13, 15, 16, 17, 18] (by decide +kernel) (by decide +kernel)
set_option maxRecDepth 20000 in
theorem gX0_leastOf_X3_at : GoodIn wsX0_leastOf (wsV RX0 35 RX3 yX3_at wsX3_at) := goodIn_app (goodIn_of _ (by decide +kernel)) ggX0_leastOf_X3_at
theorem dX0_leastOf_0 : decode cX0_leastOf 0 = .ok (.aload_n 0, 1) := by decide +kernel
theorem dX0_leastOf_1 : decode cX0_leastOf 1 = .ok (.getfield 16, 3) := by decide +kernel
theorem dX0_leastOf_4 : decode cX0_leastOf 4 = .ok (.iload_n 1, 1) := by decide +kernel
theorem dX0_leastOf_5 : decode cX0_leastOf 5 = .ok (.iconst 4, 1) := by decide +kernel
theorem dX0_leastOf_6 : decode cX0_leastOf 6 = .ok (.invokevirtual 35, 3) := by decide +kernel
theorem dX0_leastOf_9 : decode cX0_leastOf 9 = .ok (.ireturn, 1) := by decide +kernel
set_option maxRecDepth 20000 in
theorem ggX0_reasonCounts_X3_at : GoodIn wsX0_reasonCounts wsX3_at := goodIn_r _ [6, 7, 8, 9, 10, 11, 5, 12, 13, 15, 16, 17, 18] (by decide +kernel) (by decide +kernel)
set_option maxRecDepth 20000 in
theorem gX0_reasonCounts_X3_at : GoodIn wsX0_reasonCounts (wsV RX0 35 RX3 yX3_at wsX3_at) := goodIn_app (goodIn_of _ (by decide +kernel)) ggX0_reasonCounts_X3_at
theorem dX0_reasonCounts_0 : decode cX0_reasonCounts 0 = .ok (.aload_n 0, 1) := by decide +kernel
theorem dX0_reasonCounts_1 : decode cX0_reasonCounts 1 = .ok (.getfield 16, 3) := by decide +kernel
theorem dX0_reasonCounts_4 : decode cX0_reasonCounts 4 = .ok (.iload_n 1, 1) := by decide +kernel
theorem dX0_reasonCounts_5 : decode cX0_reasonCounts 5 = .ok (.iconst 3, 1) := by decide +kernel
theorem dX0_reasonCounts_6 : decode cX0_reasonCounts 6 = .ok (.invokevirtual 35, 3) := by decide +kernel
theorem dX0_reasonCounts_9 : decode cX0_reasonCounts 9 = .ok (.iload_n 2, 1) := by decide +kernel
theorem dX0_reasonCounts_10 : decode cX0_reasonCounts 10 = .ok (.ishr, 1) := by decide +kernel
theorem dX0_reasonCounts_11 : decode cX0_reasonCounts 11 = .ok (.iconst 1, 1) := by decide +kernel
theorem dX0_reasonCounts_12 : decode cX0_reasonCounts 12 = .ok (.iand, 1) := by decide +kernel
theorem dX0_reasonCounts_13 : decode cX0_reasonCounts 13 = .ok (.iconst 1, 1) := by decide +kernel
theorem dX0_reasonCounts_14 : decode cX0_reasonCounts 14 = .ok (.if_icmp .ne 7, 3) := by decide +kernel
theorem dX0_reasonCounts_17 : decode cX0_reasonCounts 17 = .ok (.iconst 1, 1) := by decide +kernel
theorem dX0_reasonCounts_18 : decode cX0_reasonCounts 18 = .ok (.goto 4, 3) := by decide +kernel
theorem dX0_reasonCounts_21 : decode cX0_reasonCounts 21 = .ok (.iconst 0, 1) := by decide +kernel
theorem dX0_reasonCounts_22 : decode cX0_reasonCounts 22 = .ok (.ireturn, 1) := by decide +kernel
set_option maxRecDepth 20000 in
theorem ggX0_isLost_X3_at : GoodIn wsX0_isLost wsX3_at := goodIn_r _ [6, 7, 8, 9, 10, 11, 5, 12, 13, 15, 16, 17, 18] (by decide +kernel) (by decide +kernel)
set_option maxRecDepth 20000 in
theorem gX0_isLost_X3_at : GoodIn wsX0_isLost (wsV RX0 35 RX3 yX3_at wsX3_at) := goodIn_app (goodIn_of _ (by decide +kernel)) ggX0_isLost_X3_at
theorem dX0_isLost_0 : decode cX0_isLost 0 = .ok (.aload_n 0, 1) := by decide +kernel
theorem dX0_isLost_1 : decode cX0_isLost 1 = .ok (.getfield 16, 3) := by decide +kernel
theorem dX0_isLost_4 : decode cX0_isLost 4 = .ok (.iload_n 1, 1) := by decide +kernel
theorem dX0_isLost_5 : decode cX0_isLost 5 = .ok (.iconst 5, 1) := by decide +kernel
theorem dX0_isLost_6 : decode cX0_isLost 6 = .ok (.invokevirtual 35, 3) := by decide +kernel
theorem dX0_isLost_9 : decode cX0_isLost 9 = .ok (.iconst 1, 1) := by decide +kernel
theorem dX0_isLost_10 : decode cX0_isLost 10 = .ok (.if_icmp .ne 7, 3) := by decide +kernel
theorem dX0_isLost_13 : decode cX0_isLost 13 = .ok (.iconst 1, 1) := by decide +kernel
theorem dX0_isLost_14 : decode cX0_isLost 14 = .ok (.goto 4, 3) := by decide +kernel
theorem dX0_isLost_17 : decode cX0_isLost 17 = .ok (.iconst 0, 1) := by decide +kernel
theorem dX0_isLost_18 : decode cX0_isLost 18 = .ok (.ireturn, 1) := by decide +kernel
set_option maxRecDepth 20000 in
theorem ggX0_setLost_X3_put : GoodIn wsX0_setLost wsX3_put := goodIn_r _ [6, 7, 8, 9, 10, 11, 5, 12, 13, 15, 16, 17, 18] (by decide +kernel) (by decide +kernel)
set_option maxRecDepth 20000 in
theorem gX0_setLost_X3_put : GoodIn wsX0_setLost (wsV RX0 31 RX3 yX3_put wsX3_put) := goodIn_app (goodIn_of _ (by decide +kernel)) ggX0_setLost_X3_put
theorem dX0_setLost_0 : decode cX0_setLost 0 = .ok (.aload_n 0, 1) := by decide +kernel
theorem dX0_setLost_1 : decode cX0_setLost 1 = .ok (.getfield 16, 3) := by decide +kernel
theorem dX0_setLost_4 : decode cX0_setLost 4 = .ok (.iload_n 1, 1) := by decide +kernel
theorem dX0_setLost_5 : decode cX0_setLost 5 = .ok (.iconst 5, 1) := by decide +kernel
theorem dX0_setLost_6 : decode cX0_setLost 6 = .ok (.iload_n 2, 1) := by decide +kernel
theorem dX0_setLost_7 : decode cX0_setLost 7 = .ok (.ifCond .eq 7, 3) := by decide +kernel
theorem dX0_setLost_10 : decode cX0_setLost 10 = .ok (.iconst 1, 1) := by decide +kernel
theorem dX0_setLost_11 : decode cX0_setLost 11 = .ok (.goto 4, 3) := by decide +kernel
theorem dX0_setLost_14 : decode cX0_setLost 14 = .ok (.iconst 0, 1) := by decide +kernel
theorem dX0_setLost_15 : decode cX0_setLost 15 = .ok (.invokevirtual 31, 3) := by decide +kernel
theorem dX0_setLost_18 : decode cX0_setLost 18 = .ok (.return_, 1) := by decide +kernel
set_option maxRecDepth 20000 in
theorem ggX0_nameNumber_X0_seedOf : GoodIn wsX0_nameNumber wsX0_seedOf := goodIn_r _ [5, 6, 7, 8, 9, 10, 11, 12, 13, 14, 15, 16, 17, 18, 19, 20, 21, 22, 23] (by decide +kernel) (by decide +kernel)
set_option maxRecDepth 20000 in
theorem gX0_nameNumber_X0_seedOf : GoodIn wsX0_nameNumber (wsV RX0 39 RX0 yX0_seedOf wsX0_seedOf) := goodIn_app (goodIn_of _ (by decide +kernel)) ggX0_nameNumber_X0_seedOf
theorem dX0_nameNumber_0 : decode cX0_nameNumber 0 = .ok (.aload_n 0, 1) := by decide +kernel
theorem dX0_nameNumber_1 : decode cX0_nameNumber 1 = .ok (.iload_n 1, 1) := by decide +kernel
theorem dX0_nameNumber_2 : decode cX0_nameNumber 2 = .ok (.invokevirtual 39, 3) := by decide +kernel
theorem dX0_nameNumber_5 : decode cX0_nameNumber 5 = .ok (.iload_n 2, 1) := by decide +kernel
theorem dX0_nameNumber_6 : decode cX0_nameNumber 6 = .ok (.imul, 1) := by decide +kernel
theorem dX0_nameNumber_7 : decode cX0_nameNumber 7 = .ok (.sipush 9973, 3) := by decide +kernel
theorem dX0_nameNumber_10 : decode cX0_nameNumber 10 = .ok (.irem, 1) := by decide +kernel
theorem dX0_nameNumber_11 : decode cX0_nameNumber 11 = .ok (.ireturn, 1) := by decide +kernel
set_option maxRecDepth 20000 in
theorem ggX0_spanNumber_X3_at : GoodIn wsX0_spanNumber wsX3_at := goodIn_r _ [6, 7, 8, 9, 10, 11, 5, 12, 13, 20, 21, 22, 23] (by decide +kernel) (by decide +kernel)
set_option maxRecDepth 20000 in
theorem gX0_spanNumber_X3_at : GoodIn wsX0_spanNumber (wsV RX0 35 RX3 yX3_at wsX3_at) := goodIn_app (goodIn_of _ (by decide +kernel)) ggX0_spanNumber_X3_at
set_option maxRecDepth 20000 in
theorem ggX0_spanNumber_X0_isSpanned : GoodIn wsX0_spanNumber wsX0_isSpanned := goodIn_r _ [18, 1, 2, 3, 4, 5, 6, 7, 8, 9, 10, 11, 12, 13, 19, 20, 21, 22, 23] (by decide +kernel) (by decide +kernel)
set_option maxRecDepth 20000 in
theorem gX0_spanNumber_X0_isSpanned : GoodIn wsX0_spanNumber (wsV RX0 43 RX0 yX0_isSpanned wsX0_isSpanned) := goodIn_app (goodIn_of _ (by decide +kernel)) ggX0_spanNumber_X0_isSpanned
theorem dX0_spanNumber_0 : decode cX0_spanNumber 0 = .ok (.aload_n 0, 1) := by decide +kernel
theorem dX0_spanNumber_1 : decode cX0_spanNumber 1 = .ok (.getfield 16, 3) := by decide +kernel
theorem dX0_spanNumber_4 : decode cX0_spanNumber 4 = .ok (.iload_n 1, 1) := by decide +kernel
theorem dX0_spanNumber_5 : decode cX0_spanNumber 5 = .ok (.iconst 0, 1) := by decide +kernel
theorem dX0_spanNumber_6 : decode cX0_spanNumber 6 = .ok (.invokevirtual 35, 3) := by decide +kernel
theorem dX0_spanNumber_9 : decode cX0_spanNumber 9 = .ok (.iconst 2, 1) := by decide +kernel
theorem dX0_spanNumber_10 : decode cX0_spanNumber 10 = .ok (.if_icmp .ne 5, 3) := by decide +kernel
theorem dX0_spanNumber_13 : decode cX0_spanNumber 13 = .ok (.iload_n 3, 1) := by decide +kernel
theorem dX0_spanNumber_14 : decode cX0_spanNumber 14 = .ok (.ireturn, 1) := by decide +kernel
theorem dX0_spanNumber_15 : decode cX0_spanNumber 15 = .ok (.aload_n 0, 1) := by decide +kernel
theorem dX0_spanNumber_16 : decode cX0_spanNumber 16 = .ok (.getfield 16, 3) := by decide +kernel
theorem dX0_spanNumber_19 : decode cX0_spanNumber 19 = .ok (.iload_n 1, 1) := by decide +kernel
theorem dX0_spanNumber_20 : decode cX0_spanNumber 20 = .ok (.iconst 1, 1) := by decide +kernel
theorem dX0_spanNumber_21 : decode cX0_spanNumber 21 = .ok (.invokevirtual 35, 3) := by decide +kernel
theorem dX0_spanNumber_24 : decode cX0_spanNumber 24 = .ok (.istore 4, 2) := by decide +kernel
theorem dX0_spanNumber_26 : decode cX0_spanNumber 26 = .ok (.aload_n 0, 1) := by decide +kernel
theorem dX0_spanNumber_27 : decode cX0_spanNumber 27 = .ok (.iload_n 1, 1) := by decide +kernel
theorem dX0_spanNumber_28 : decode cX0_spanNumber 28 = .ok (.invokevirtual 43, 3) := by decide +kernel
theorem dX0_spanNumber_31 : decode cX0_spanNumber 31 = .ok (.ifCond .eq 15, 3) := by decide +kernel
theorem dX0_spanNumber_34 : decode cX0_spanNumber 34 = .ok (.iload 4, 2) := by decide +kernel
theorem dX0_spanNumber_36 : decode cX0_spanNumber 36 = .ok (.ifCond .le 10, 3) := by decide +kernel
theorem dX0_spanNumber_39 : decode cX0_spanNumber 39 = .ok (.iload_n 2, 1) := by decide +kernel
theorem dX0_spanNumber_40 : decode cX0_spanNumber 40 = .ok (.iload 4, 2) := by decide +kernel
theorem dX0_spanNumber_42 : decode cX0_spanNumber 42 = .ok (.idiv, 1) := by decide +kernel
theorem dX0_spanNumber_43 : decode cX0_spanNumber 43 = .ok (.goto 4, 3) := by decide +kernel
theorem dX0_spanNumber_46 : decode cX0_spanNumber 46 = .ok (.iconst 0, 1) := by decide +kernel
theorem dX0_spanNumber_47 : decode cX0_spanNumber 47 = .ok (.ireturn, 1) := by decide +kernel
set_option maxRecDepth 20000 in
theorem ggX1_init_X3_init : GoodIn wsX1_init wsX3_init := goodIn_r _ [11, 12, 2, 3, 13, 14, 15, 16, 17, 18, 19, 20, 21, 22, 23, 24, 25] (by decide +kernel) (by decide +kernel)
set_option maxRecDepth 20000 in
theorem gX1_init_X3_init : GoodIn wsX1_init (wsX3_init) := ggX1_init_X3_init
theorem dX1_init_0 : decode cX1_init 0 = .ok (.aload_n 0, 1) := by decide +kernel
theorem dX1_init_1 : decode cX1_init 1 = .ok (.invokespecial 3, 3) := by decide +kernel
theorem dX1_init_4 : decode cX1_init 4 = .ok (.aload_n 0, 1) := by decide +kernel
theorem dX1_init_5 : decode cX1_init 5 = .ok (.new 9, 3) := by decide +kernel
theorem dX1_init_8 : decode cX1_init 8 = .ok (.dup, 1) := by decide +kernel
theorem dX1_init_9 : decode cX1_init 9 = .ok (.sipush 200, 3) := by decide +kernel
theorem dX1_init_12 : decode cX1_init 12 = .ok (.iconst 5, 1) := by decide +kernel
theorem dX1_init_13 : decode cX1_init 13 = .ok (.invokespecial 13, 3) := by decide +kernel
theorem dX1_init_16 : decode cX1_init 16 = .ok (.putfield 16, 3) := by decide +kernel
theorem dX1_init_19 : decode cX1_init 19 = .ok (.aload_n 0, 1) := by decide +kernel
theorem dX1_init_20 : decode cX1_init 20 = .ok (.aload_n 1, 1) := by decide +kernel
theorem dX1_init_21 : decode cX1_init 21 = .ok (.putfield 20, 3) := by decide +kernel
theorem dX1_init_24 : decode cX1_init 24 = .ok (.return_, 1) := by decide +kernel
set_option maxRecDepth 20000 in
theorem ggX1_size_X3_size : GoodIn wsX1_size wsX3_size := goodIn_r _ [6, 7, 10, 11, 12, 13] (by decide +kernel) (by decide +kernel)
set_option maxRecDepth 20000 in
theorem gX1_size_X3_size : GoodIn wsX1_size (wsV RX1 24 RX3 yX3_size wsX3_size) := goodIn_app (goodIn_of _ (by decide +kernel)) ggX1_size_X3_size
theorem dX1_size_0 : decode cX1_size 0 = .ok (.aload_n 0, 1) := by decide +kernel
theorem dX1_size_1 : decode cX1_size 1 = .ok (.getfield 16, 3) := by decide +kernel
theorem dX1_size_4 : decode cX1_size 4 = .ok (.invokevirtual 24, 3) := by decide +kernel
theorem dX1_size_7 : decode cX1_size 7 = .ok (.ireturn, 1) := by decide +kernel
set_option maxRecDepth 20000 in
theorem ggX1_cell_X3_at : GoodIn wsX1_cell wsX3_at := goodIn_r _ [6, 7, 8, 9, 10, 11, 5, 12, 13, 16, 17, 18, 19] (by decide +kernel) (by decide +kernel)
set_option maxRecDepth 20000 in
theorem gX1_cell_X3_at : GoodIn wsX1_cell (wsV RX1 28 RX3 yX3_at wsX3_at) := goodIn_app (goodIn_of _ (by decide +kernel)) ggX1_cell_X3_at
theorem dX1_cell_0 : decode cX1_cell 0 = .ok (.aload_n 0, 1) := by decide +kernel
theorem dX1_cell_1 : decode cX1_cell 1 = .ok (.getfield 16, 3) := by decide +kernel
theorem dX1_cell_4 : decode cX1_cell 4 = .ok (.iload_n 1, 1) := by decide +kernel
theorem dX1_cell_5 : decode cX1_cell 5 = .ok (.iload_n 2, 1) := by decide +kernel
theorem dX1_cell_6 : decode cX1_cell 6 = .ok (.invokevirtual 28, 3) := by decide +kernel
theorem dX1_cell_9 : decode cX1_cell 9 = .ok (.ireturn, 1) := by decide +kernel
set_option maxRecDepth 20000 in
theorem ggX1_nameAt_X3_at : GoodIn wsX1_nameAt wsX3_at := goodIn_r _ [6, 7, 8, 9, 10, 11, 5, 12, 13, 16, 17, 18, 19] (by decide +kernel) (by decide +kernel)
set_option maxRecDepth 20000 in
theorem gX1_nameAt_X3_at : GoodIn wsX1_nameAt (wsV RX1 28 RX3 yX3_at wsX3_at) := goodIn_app (goodIn_of _ (by decide +kernel)) ggX1_nameAt_X3_at
theorem dX1_nameAt_0 : decode cX1_nameAt 0 = .ok (.aload_n 0, 1) := by decide +kernel
theorem dX1_nameAt_1 : decode cX1_nameAt 1 = .ok (.getfield 16, 3) := by decide +kernel
theorem dX1_nameAt_4 : decode cX1_nameAt 4 = .ok (.iload_n 1, 1) := by decide +kernel
theorem dX1_nameAt_5 : decode cX1_nameAt 5 = .ok (.iconst 1, 1) := by decide +kernel
theorem dX1_nameAt_6 : decode cX1_nameAt 6 = .ok (.invokevirtual 28, 3) := by decide +kernel
theorem dX1_nameAt_9 : decode cX1_nameAt 9 = .ok (.ireturn, 1) := by decide +kernel
set_option maxRecDepth 20000 in
theorem ggX1_ownerAt_X3_at : GoodIn wsX1_ownerAt wsX3_at := goodIn_r _ [6, 7, 8, 9, 10, 11, 5, 12, 13, 16, 17, 18, 19] (by decide +kernel) (by decide +kernel)
set_option maxRecDepth 20000 in
theorem gX1_ownerAt_X3_at : GoodIn wsX1_ownerAt (wsV RX1 28 RX3 yX3_at wsX3_at) := goodIn_app (goodIn_of _ (by decide +kernel)) ggX1_ownerAt_X3_at
theorem dX1_ownerAt_0 : decode cX1_ownerAt 0 = .ok (.aload_n 0, 1) := by decide +kernel
theorem dX1_ownerAt_1 : decode cX1_ownerAt 1 = .ok (.getfield 16, 3) := by decide +kernel
theorem dX1_ownerAt_4 : decode cX1_ownerAt 4 = .ok (.iload_n 1, 1) := by decide +kernel
theorem dX1_ownerAt_5 : decode cX1_ownerAt 5 = .ok (.iconst 2, 1) := by decide +kernel
theorem dX1_ownerAt_6 : decode cX1_ownerAt 6 = .ok (.invokevirtual 28, 3) := by decide +kernel
theorem dX1_ownerAt_9 : decode cX1_ownerAt 9 = .ok (.ireturn, 1) := by decide +kernel
set_option maxRecDepth 20000 in
theorem ggX1_spanNumberAt_X3_at : GoodIn wsX1_spanNumberAt wsX3_at := goodIn_r _ [6, 7, 8, 9, 10, 11, 5, 12, 13, 16, 17, 18, 19] (by decide +kernel) (by decide +kernel)
set_option maxRecDepth 20000 in
theorem gX1_spanNumberAt_X3_at : GoodIn wsX1_spanNumberAt (wsV RX1 28 RX3 yX3_at wsX3_at) := goodIn_app (goodIn_of _ (by decide +kernel)) ggX1_spanNumberAt_X3_at
theorem dX1_spanNumberAt_0 : decode cX1_spanNumberAt 0 = .ok (.aload_n 0, 1) := by decide +kernel
theorem dX1_spanNumberAt_1 : decode cX1_spanNumberAt 1 = .ok (.getfield 16, 3) := by decide +kernel
theorem dX1_spanNumberAt_4 : decode cX1_spanNumberAt 4 = .ok (.iload_n 1, 1) := by decide +kernel
theorem dX1_spanNumberAt_5 : decode cX1_spanNumberAt 5 = .ok (.iconst 4, 1) := by decide +kernel
theorem dX1_spanNumberAt_6 : decode cX1_spanNumberAt 6 = .ok (.invokevirtual 28, 3) := by decide +kernel
theorem dX1_spanNumberAt_9 : decode cX1_spanNumberAt 9 = .ok (.ireturn, 1) := by decide +kernel
set_option maxRecDepth 20000 in
theorem ggX1_add_X3_addRow : GoodIn wsX1_add wsX3_addRow := goodIn_r _ [6, 7, 8, 9, 10, 5, 11, 12, 25, 26, 27, 28] (by decide +kernel) (by decide +kernel)
set_option maxRecDepth 20000 in
theorem gX1_add_X3_addRow : GoodIn wsX1_add (wsV RX1 32 RX3 yX3_addRow wsX3_addRow) := goodIn_app (goodIn_of _ (by decide +kernel)) ggX1_add_X3_addRow
set_option maxRecDepth 20000 in
theorem ggX1_add_X3_put : GoodIn wsX1_add wsX3_put := goodIn_r _ [16, 17, 18, 19, 20, 21, 5, 22, 7, 25, 26, 27, 28] (by decide +kernel) (by decide +kernel)
set_option maxRecDepth 20000 in
theorem gX1_add_X3_put : GoodIn wsX1_add (wsV RX1 35 RX3 yX3_put wsX3_put) := goodIn_app (goodIn_of _ (by decide +kernel)) ggX1_add_X3_put
theorem dX1_add_0 : decode cX1_add 0 = .ok (.aload_n 0, 1) := by decide +kernel
theorem dX1_add_1 : decode cX1_add 1 = .ok (.getfield 16, 3) := by decide +kernel
theorem dX1_add_4 : decode cX1_add 4 = .ok (.invokevirtual 32, 3) := by decide +kernel
theorem dX1_add_7 : decode cX1_add 7 = .ok (.istore 6, 2) := by decide +kernel
theorem dX1_add_9 : decode cX1_add 9 = .ok (.aload_n 0, 1) := by decide +kernel
theorem dX1_add_10 : decode cX1_add 10 = .ok (.getfield 16, 3) := by decide +kernel
theorem dX1_add_13 : decode cX1_add 13 = .ok (.iload 6, 2) := by decide +kernel
theorem dX1_add_15 : decode cX1_add 15 = .ok (.iconst 0, 1) := by decide +kernel
theorem dX1_add_16 : decode cX1_add 16 = .ok (.iload_n 1, 1) := by decide +kernel
theorem dX1_add_17 : decode cX1_add 17 = .ok (.invokevirtual 35, 3) := by decide +kernel
theorem dX1_add_20 : decode cX1_add 20 = .ok (.aload_n 0, 1) := by decide +kernel
theorem dX1_add_21 : decode cX1_add 21 = .ok (.getfield 16, 3) := by decide +kernel
theorem dX1_add_24 : decode cX1_add 24 = .ok (.iload 6, 2) := by decide +kernel
theorem dX1_add_26 : decode cX1_add 26 = .ok (.iconst 1, 1) := by decide +kernel
theorem dX1_add_27 : decode cX1_add 27 = .ok (.iload_n 2, 1) := by decide +kernel
theorem dX1_add_28 : decode cX1_add 28 = .ok (.invokevirtual 35, 3) := by decide +kernel
theorem dX1_add_31 : decode cX1_add 31 = .ok (.aload_n 0, 1) := by decide +kernel
theorem dX1_add_32 : decode cX1_add 32 = .ok (.getfield 16, 3) := by decide +kernel
theorem dX1_add_35 : decode cX1_add 35 = .ok (.iload 6, 2) := by decide +kernel
theorem dX1_add_37 : decode cX1_add 37 = .ok (.iconst 2, 1) := by decide +kernel
theorem dX1_add_38 : decode cX1_add 38 = .ok (.iload_n 3, 1) := by decide +kernel
theorem dX1_add_39 : decode cX1_add 39 = .ok (.invokevirtual 35, 3) := by decide +kernel
theorem dX1_add_42 : decode cX1_add 42 = .ok (.aload_n 0, 1) := by decide +kernel
theorem dX1_add_43 : decode cX1_add 43 = .ok (.getfield 16, 3) := by decide +kernel
theorem dX1_add_46 : decode cX1_add 46 = .ok (.iload 6, 2) := by decide +kernel
theorem dX1_add_48 : decode cX1_add 48 = .ok (.iconst 3, 1) := by decide +kernel
theorem dX1_add_49 : decode cX1_add 49 = .ok (.iload 4, 2) := by decide +kernel
theorem dX1_add_51 : decode cX1_add 51 = .ok (.invokevirtual 35, 3) := by decide +kernel
theorem dX1_add_54 : decode cX1_add 54 = .ok (.aload_n 0, 1) := by decide +kernel
theorem dX1_add_55 : decode cX1_add 55 = .ok (.getfield 16, 3) := by decide +kernel
theorem dX1_add_58 : decode cX1_add 58 = .ok (.iload 6, 2) := by decide +kernel
theorem dX1_add_60 : decode cX1_add 60 = .ok (.iconst 4, 1) := by decide +kernel
theorem dX1_add_61 : decode cX1_add 61 = .ok (.iload 5, 2) := by decide +kernel
theorem dX1_add_63 : decode cX1_add 63 = .ok (.invokevirtual 35, 3) := by decide +kernel
theorem dX1_add_66 : decode cX1_add 66 = .ok (.iload 6, 2) := by decide +kernel
theorem dX1_add_68 : decode cX1_add 68 = .ok (.ireturn, 1) := by decide +kernel
set_option maxRecDepth 20000 in
theorem ggX1_find_X3_size : GoodIn wsX1_find wsX3_size := goodIn_r _ [6, 7, 25, 26, 27, 28] (by decide +kernel) (by decide +kernel)
set_option maxRecDepth 20000 in
theorem gX1_find_X3_size : GoodIn wsX1_find (wsV RX1 24 RX3 yX3_size wsX3_size) := goodIn_app (goodIn_of _ (by decide +kernel)) ggX1_find_X3_size
set_option maxRecDepth 20000 in
theorem ggX1_find_X3_at : GoodIn wsX1_find wsX3_at := goodIn_r _ [11, 12, 13, 14, 15, 16, 5, 17, 7, 25, 26, 27, 28] (by decide +kernel) (by decide +kernel)
set_option maxRecDepth 20000 in
theorem gX1_find_X3_at : GoodIn wsX1_find (wsV RX1 28 RX3 yX3_at wsX3_at) := goodIn_app (goodIn_of _ (by decide +kernel)) ggX1_find_X3_at
set_option maxRecDepth 20000 in
theorem ggX1_find_X1_nameAt : GoodIn wsX1_find wsX1_nameAt := goodIn_r _ [22, 1, 8, 9, 10, 5, 11, 12, 13, 14, 15, 16, 17, 7, 23, 24, 25, 26, 27, 28] (by decide +kernel) (by decide +kernel)
set_option maxRecDepth 20000 in
theorem gX1_find_X1_nameAt : GoodIn wsX1_find (wsV RX1 39 RX1 yX1_nameAt wsX1_nameAt) := goodIn_app (goodIn_of _ (by decide +kernel)) ggX1_find_X1_nameAt
theorem dX1_find_0 : decode cX1_find 0 = .ok (.iconst 0, 1) := by decide +kernel
theorem dX1_find_1 : decode cX1_find 1 = .ok (.istore_n 3, 1) := by decide +kernel
theorem dX1_find_2 : decode cX1_find 2 = .ok (.iload_n 3, 1) := by decide +kernel
theorem dX1_find_3 : decode cX1_find 3 = .ok (.aload_n 0, 1) := by decide +kernel
theorem dX1_find_4 : decode cX1_find 4 = .ok (.getfield 16, 3) := by decide +kernel
theorem dX1_find_7 : decode cX1_find 7 = .ok (.invokevirtual 24, 3) := by decide +kernel
theorem dX1_find_10 : decode cX1_find 10 = .ok (.if_icmp .ge 33, 3) := by decide +kernel
theorem dX1_find_13 : decode cX1_find 13 = .ok (.aload_n 0, 1) := by decide +kernel
theorem dX1_find_14 : decode cX1_find 14 = .ok (.getfield 16, 3) := by decide +kernel
theorem dX1_find_17 : decode cX1_find 17 = .ok (.iload_n 3, 1) := by decide +kernel
theorem dX1_find_18 : decode cX1_find 18 = .ok (.iconst 0, 1) := by decide +kernel
theorem dX1_find_19 : decode cX1_find 19 = .ok (.invokevirtual 28, 3) := by decide +kernel
theorem dX1_find_22 : decode cX1_find 22 = .ok (.iload_n 1, 1) := by decide +kernel
theorem dX1_find_23 : decode cX1_find 23 = .ok (.if_icmp .ne 14, 3) := by decide +kernel
theorem dX1_find_26 : decode cX1_find 26 = .ok (.aload_n 0, 1) := by decide +kernel
theorem dX1_find_27 : decode cX1_find 27 = .ok (.iload_n 3, 1) := by decide +kernel
theorem dX1_find_28 : decode cX1_find 28 = .ok (.invokevirtual 39, 3) := by decide +kernel
theorem dX1_find_31 : decode cX1_find 31 = .ok (.iload_n 2, 1) := by decide +kernel
theorem dX1_find_32 : decode cX1_find 32 = .ok (.if_icmp .ne 5, 3) := by decide +kernel
theorem dX1_find_35 : decode cX1_find 35 = .ok (.iload_n 3, 1) := by decide +kernel
theorem dX1_find_36 : decode cX1_find 36 = .ok (.ireturn, 1) := by decide +kernel
theorem dX1_find_37 : decode cX1_find 37 = .ok (.iinc 3 1, 3) := by decide +kernel
theorem dX1_find_40 : decode cX1_find 40 = .ok (.goto (-38), 3) := by decide +kernel
theorem dX1_find_43 : decode cX1_find 43 = .ok (.iconst (-1), 1) := by decide +kernel
theorem dX1_find_44 : decode cX1_find 44 = .ok (.ireturn, 1) := by decide +kernel
set_option maxRecDepth 20000 in
theorem ggX1_firstFor_X3_size : GoodIn wsX1_firstFor wsX3_size := goodIn_r _ [7, 8, 37, 38, 39, 40] (by decide +kernel) (by decide +kernel)
set_option maxRecDepth 20000 in
theorem gX1_firstFor_X3_size : GoodIn wsX1_firstFor (wsV RX1 24 RX3 yX3_size wsX3_size) := goodIn_app (goodIn_of _ (by decide +kernel)) ggX1_firstFor_X3_size
set_option maxRecDepth 20000 in
theorem ggX1_firstFor_X3_at : GoodIn wsX1_firstFor wsX3_at := goodIn_r _ [12, 13, 14, 15, 16, 17, 6, 18, 8, 37, 38, 39, 40] (by decide +kernel) (by decide +kernel)
set_option maxRecDepth 20000 in
theorem gX1_firstFor_X3_at : GoodIn wsX1_firstFor (wsV RX1 28 RX3 yX3_at wsX3_at) := goodIn_app (goodIn_of _ (by decide +kernel)) ggX1_firstFor_X3_at
set_option maxRecDepth 20000 in
theorem ggX1_firstFor_X1_spanNumberAt : GoodIn wsX1_firstFor wsX1_spanNumberAt := goodIn_r _ [23, 1, 9, 10, 11, 6, 12, 13, 14, 15, 16, 17, 18, 8, 35, 36, 37, 38, 39, 40] (by decide +kernel) (by decide +kernel)
set_option maxRecDepth 20000 in
theorem gX1_firstFor_X1_spanNumberAt : GoodIn wsX1_firstFor (wsV RX1 43 RX1 yX1_spanNumberAt wsX1_spanNumberAt) := goodIn_app (goodIn_of _ (by decide +kernel)) ggX1_firstFor_X1_spanNumberAt
set_option maxRecDepth 20000 in
theorem ggX1_firstFor_X1_ownerAt : GoodIn wsX1_firstFor wsX1_ownerAt := goodIn_r _ [27, 1, 9, 10, 11, 6, 12, 13, 14, 15, 16, 17, 18, 8, 35, 36, 37, 38, 39, 40] (by decide +kernel) (by decide +kernel)
set_option maxRecDepth 20000 in
theorem gX1_firstFor_X1_ownerAt : GoodIn wsX1_firstFor (wsV RX1 46 RX1 yX1_ownerAt wsX1_ownerAt) := goodIn_app (goodIn_of _ (by decide +kernel)) ggX1_firstFor_X1_ownerAt
set_option maxRecDepth 20000 in
theorem ggX1_firstFor_X2_headOf : GoodIn wsX1_firstFor wsX2_headOf := goodIn_r _ [32, 33, 34, 10, 11, 6, 12, 13, 14, 15, 16, 17, 18, 8, 41, 37, 38, 39, 40] (by decide +kernel) (by decide +kernel)
set_option maxRecDepth 20000 in
theorem gX1_firstFor_X2_headOf : GoodIn wsX1_firstFor (wsV RX1 49 RX2 yX2_headOf wsX2_headOf) := goodIn_app (goodIn_of _ (by decide +kernel)) ggX1_firstFor_X2_headOf
theorem dX1_firstFor_0 : decode cX1_firstFor 0 = .ok (.iconst 0, 1) := by decide +kernel
theorem dX1_firstFor_1 : decode cX1_firstFor 1 = .ok (.istore 4, 2) := by decide +kernel
theorem dX1_firstFor_3 : decode cX1_firstFor 3 = .ok (.iload 4, 2) := by decide +kernel
theorem dX1_firstFor_5 : decode cX1_firstFor 5 = .ok (.aload_n 0, 1) := by decide +kernel
theorem dX1_firstFor_6 : decode cX1_firstFor 6 = .ok (.getfield 16, 3) := by decide +kernel
theorem dX1_firstFor_9 : decode cX1_firstFor 9 = .ok (.invokevirtual 24, 3) := by decide +kernel
theorem dX1_firstFor_12 : decode cX1_firstFor 12 = .ok (.if_icmp .ge 65, 3) := by decide +kernel
theorem dX1_firstFor_15 : decode cX1_firstFor 15 = .ok (.aload_n 0, 1) := by decide +kernel
theorem dX1_firstFor_16 : decode cX1_firstFor 16 = .ok (.getfield 16, 3) := by decide +kernel
theorem dX1_firstFor_19 : decode cX1_firstFor 19 = .ok (.iload 4, 2) := by decide +kernel
theorem dX1_firstFor_21 : decode cX1_firstFor 21 = .ok (.iconst 0, 1) := by decide +kernel
theorem dX1_firstFor_22 : decode cX1_firstFor 22 = .ok (.invokevirtual 28, 3) := by decide +kernel
theorem dX1_firstFor_25 : decode cX1_firstFor 25 = .ok (.iload_n 1, 1) := by decide +kernel
theorem dX1_firstFor_26 : decode cX1_firstFor 26 = .ok (.if_icmp .ne 17, 3) := by decide +kernel
theorem dX1_firstFor_29 : decode cX1_firstFor 29 = .ok (.aload_n 0, 1) := by decide +kernel
theorem dX1_firstFor_30 : decode cX1_firstFor 30 = .ok (.iload 4, 2) := by decide +kernel
theorem dX1_firstFor_32 : decode cX1_firstFor 32 = .ok (.invokevirtual 43, 3) := by decide +kernel
theorem dX1_firstFor_35 : decode cX1_firstFor 35 = .ok (.iload_n 2, 1) := by decide +kernel
theorem dX1_firstFor_36 : decode cX1_firstFor 36 = .ok (.if_icmp .ne 7, 3) := by decide +kernel
theorem dX1_firstFor_39 : decode cX1_firstFor 39 = .ok (.iconst 1, 1) := by decide +kernel
theorem dX1_firstFor_40 : decode cX1_firstFor 40 = .ok (.goto 4, 3) := by decide +kernel
theorem dX1_firstFor_43 : decode cX1_firstFor 43 = .ok (.iconst 0, 1) := by decide +kernel
theorem dX1_firstFor_44 : decode cX1_firstFor 44 = .ok (.istore 5, 2) := by decide +kernel
theorem dX1_firstFor_46 : decode cX1_firstFor 46 = .ok (.iload 5, 2) := by decide +kernel
theorem dX1_firstFor_48 : decode cX1_firstFor 48 = .ok (.ifCond .eq 23, 3) := by decide +kernel
theorem dX1_firstFor_51 : decode cX1_firstFor 51 = .ok (.aload_n 0, 1) := by decide +kernel
theorem dX1_firstFor_52 : decode cX1_firstFor 52 = .ok (.getfield 20, 3) := by decide +kernel
theorem dX1_firstFor_55 : decode cX1_firstFor 55 = .ok (.aload_n 0, 1) := by decide +kernel
theorem dX1_firstFor_56 : decode cX1_firstFor 56 = .ok (.iload 4, 2) := by decide +kernel
theorem dX1_firstFor_58 : decode cX1_firstFor 58 = .ok (.invokevirtual 46, 3) := by decide +kernel
theorem dX1_firstFor_61 : decode cX1_firstFor 61 = .ok (.invokevirtual 49, 3) := by decide +kernel
theorem dX1_firstFor_64 : decode cX1_firstFor 64 = .ok (.iload_n 3, 1) := by decide +kernel
theorem dX1_firstFor_65 : decode cX1_firstFor 65 = .ok (.if_icmp .ne 6, 3) := by decide +kernel
theorem dX1_firstFor_68 : decode cX1_firstFor 68 = .ok (.iload 4, 2) := by decide +kernel
theorem dX1_firstFor_70 : decode cX1_firstFor 70 = .ok (.ireturn, 1) := by decide +kernel
theorem dX1_firstFor_71 : decode cX1_firstFor 71 = .ok (.iinc 4 1, 3) := by decide +kernel
theorem dX1_firstFor_74 : decode cX1_firstFor 74 = .ok (.goto (-71), 3) := by decide +kernel
theorem dX1_firstFor_77 : decode cX1_firstFor 77 = .ok (.iconst (-1), 1) := by decide +kernel
theorem dX1_firstFor_78 : decode cX1_firstFor 78 = .ok (.ireturn, 1) := by decide +kernel
set_option maxRecDepth 20000 in
theorem ggX1_leadsTo_X3_at : GoodIn wsX1_leadsTo wsX3_at := goodIn_r _ [7, 8, 9, 10, 11, 12, 6, 13, 14, 41, 42, 43, 44] (by decide +kernel) (by decide +kernel)
set_option maxRecDepth 20000 in
theorem gX1_leadsTo_X3_at : GoodIn wsX1_leadsTo (wsV RX1 28 RX3 yX3_at wsX3_at) := goodIn_app (goodIn_of _ (by decide +kernel)) ggX1_leadsTo_X3_at
set_option maxRecDepth 20000 in
theorem ggX1_leadsTo_X1_spanNumberAt : GoodIn wsX1_leadsTo wsX1_spanNumberAt := goodIn_r _ [19, 1, 3, 4, 5, 6, 7, 8, 9, 10, 11, 12, 13, 14, 39, 40, 41, 42, 43, 44] (by decide +kernel) (by decide +kernel)
set_option maxRecDepth 20000 in
theorem gX1_leadsTo_X1_spanNumberAt : GoodIn wsX1_leadsTo (wsV RX1 43 RX1 yX1_spanNumberAt wsX1_spanNumberAt) := goodIn_app (goodIn_of _ (by decide +kernel)) ggX1_leadsTo_X1_spanNumberAt
set_option maxRecDepth 20000 in
theorem ggX1_leadsTo_X1_ownerAt : GoodIn wsX1_leadsTo wsX1_ownerAt := goodIn_r _ [23, 1, 3, 4, 5, 6, 7, 8, 9, 10, 11, 12, 13, 14, 39, 40, 41, 42, 43, 44] (by decide +kernel) (by decide +kernel)
set_option maxRecDepth 20000 in
theorem gX1_leadsTo_X1_ownerAt : GoodIn wsX1_leadsTo (wsV RX1 46 RX1 yX1_ownerAt wsX1_ownerAt) := goodIn_app (goodIn_of _ (by decide +kernel)) ggX1_leadsTo_X1_ownerAt
set_option maxRecDepth 20000 in
theorem ggX1_leadsTo_X2_headOf : GoodIn wsX1_leadsTo wsX2_headOf := goodIn_r _ [28, 29, 30, 4, 5, 6, 7, 8, 9, 10, 11, 12, 13, 14, 45, 41, 42, 43, 44] (by decide +kernel) (by decide +kernel)
set_option maxRecDepth 20000 in
theorem gX1_leadsTo_X2_headOf : GoodIn wsX1_leadsTo (wsV RX1 49 RX2 yX2_headOf wsX2_headOf) := goodIn_app (goodIn_of _ (by decide +kernel)) ggX1_leadsTo_X2_headOf
set_option maxRecDepth 20000 in
theorem ggX1_leadsTo_X1_firstFor : GoodIn wsX1_leadsTo wsX1_firstFor := goodIn_r _ [34, 1, 2, 35, 36, 37, 6, 38, 14, 3, 4, 5, 7, 8, 9, 10, 11, 12, 13, 15, 16, 17, 18, 19, 20, 21, 22, 23, 24, 25, 26, 27, 28, 29, 30, 39, 40, 41, 42, 43, 44, 45] (by decide +kernel) (by decide +kernel)
set_option maxRecDepth 20000 in
theorem gX1_leadsTo_X1_firstFor : GoodIn wsX1_leadsTo (wsV RX1 54 RX1 yX1_firstFor wsX1_firstFor) := goodIn_app (goodIn_of _ (by decide +kernel)) ggX1_leadsTo_X1_firstFor
theorem dX1_leadsTo_0 : decode cX1_leadsTo 0 = .ok (.aload_n 0, 1) := by decide +kernel
theorem dX1_leadsTo_1 : decode cX1_leadsTo 1 = .ok (.aload_n 0, 1) := by decide +kernel
theorem dX1_leadsTo_2 : decode cX1_leadsTo 2 = .ok (.getfield 16, 3) := by decide +kernel
theorem dX1_leadsTo_5 : decode cX1_leadsTo 5 = .ok (.iload_n 1, 1) := by decide +kernel
theorem dX1_leadsTo_6 : decode cX1_leadsTo 6 = .ok (.iconst 0, 1) := by decide +kernel
theorem dX1_leadsTo_7 : decode cX1_leadsTo 7 = .ok (.invokevirtual 28, 3) := by decide +kernel
theorem dX1_leadsTo_10 : decode cX1_leadsTo 10 = .ok (.aload_n 0, 1) := by decide +kernel
theorem dX1_leadsTo_11 : decode cX1_leadsTo 11 = .ok (.iload_n 1, 1) := by decide +kernel
theorem dX1_leadsTo_12 : decode cX1_leadsTo 12 = .ok (.invokevirtual 43, 3) := by decide +kernel
theorem dX1_leadsTo_15 : decode cX1_leadsTo 15 = .ok (.aload_n 0, 1) := by decide +kernel
theorem dX1_leadsTo_16 : decode cX1_leadsTo 16 = .ok (.getfield 20, 3) := by decide +kernel
theorem dX1_leadsTo_19 : decode cX1_leadsTo 19 = .ok (.aload_n 0, 1) := by decide +kernel
theorem dX1_leadsTo_20 : decode cX1_leadsTo 20 = .ok (.iload_n 1, 1) := by decide +kernel
theorem dX1_leadsTo_21 : decode cX1_leadsTo 21 = .ok (.invokevirtual 46, 3) := by decide +kernel
theorem dX1_leadsTo_24 : decode cX1_leadsTo 24 = .ok (.invokevirtual 49, 3) := by decide +kernel
theorem dX1_leadsTo_27 : decode cX1_leadsTo 27 = .ok (.invokevirtual 54, 3) := by decide +kernel
theorem dX1_leadsTo_30 : decode cX1_leadsTo 30 = .ok (.ireturn, 1) := by decide +kernel
set_option maxRecDepth 20000 in
theorem ggX1_countGivenBy_X1_countWith : GoodIn wsX1_countGivenBy wsX1_countWith := goodIn_r _ [5, 6, 7, 8, 9, 10, 11, 12, 13, 14, 15, 16, 17, 18, 19, 20, 21, 22, 23, 24, 25, 26, 27, 28] (by decide +kernel) (by decide +kernel)
set_option maxRecDepth 20000 in
theorem gX1_countGivenBy_X1_countWith : GoodIn wsX1_countGivenBy (wsV RX1 58 RX1 yX1_countWith wsX1_countWith) := goodIn_app (goodIn_of _ (by decide +kernel)) ggX1_countGivenBy_X1_countWith
theorem dX1_countGivenBy_0 : decode cX1_countGivenBy 0 = .ok (.aload_n 0, 1) := by decide +kernel
theorem dX1_countGivenBy_1 : decode cX1_countGivenBy 1 = .ok (.iconst 0, 1) := by decide +kernel
theorem dX1_countGivenBy_2 : decode cX1_countGivenBy 2 = .ok (.iload_n 1, 1) := by decide +kernel
theorem dX1_countGivenBy_3 : decode cX1_countGivenBy 3 = .ok (.invokevirtual 58, 3) := by decide +kernel
theorem dX1_countGivenBy_6 : decode cX1_countGivenBy 6 = .ok (.ireturn, 1) := by decide +kernel
set_option maxRecDepth 20000 in
theorem ggX1_countOwnedBy_X1_countWith : GoodIn wsX1_countOwnedBy wsX1_countWith := goodIn_r _ [5, 6, 7, 8, 9, 10, 11, 12, 13, 14, 15, 16, 17, 18, 19, 20, 21, 22, 23, 24, 25, 26, 27, 28] (by decide +kernel) (by decide +kernel)
set_option maxRecDepth 20000 in
theorem gX1_countOwnedBy_X1_countWith : GoodIn wsX1_countOwnedBy (wsV RX1 58 RX1 yX1_countWith wsX1_countWith) := goodIn_app (goodIn_of _ (by decide +kernel)) ggX1_countOwnedBy_X1_countWith
theorem dX1_countOwnedBy_0 : decode cX1_countOwnedBy 0 = .ok (.aload_n 0, 1) := by decide +kernel
theorem dX1_countOwnedBy_1 : decode cX1_countOwnedBy 1 = .ok (.iconst 2, 1) := by decide +kernel
theorem dX1_countOwnedBy_2 : decode cX1_countOwnedBy 2 = .ok (.iload_n 1, 1) := by decide +kernel
theorem dX1_countOwnedBy_3 : decode cX1_countOwnedBy 3 = .ok (.invokevirtual 58, 3) := by decide +kernel
theorem dX1_countOwnedBy_6 : decode cX1_countOwnedBy 6 = .ok (.ireturn, 1) := by decide +kernel
set_option maxRecDepth 20000 in
theorem ggX1_knownTo_X3_size : GoodIn wsX1_knownTo wsX3_size := goodIn_r _ [7, 8, 37, 38, 39, 40] (by decide +kernel) (by decide +kernel)
set_option maxRecDepth 20000 in
theorem gX1_knownTo_X3_size : GoodIn wsX1_knownTo (wsV RX1 24 RX3 yX3_size wsX3_size) := goodIn_app (goodIn_of _ (by decide +kernel)) ggX1_knownTo_X3_size
set_option maxRecDepth 20000 in
theorem ggX1_knownTo_X1_ownerAt : GoodIn wsX1_knownTo wsX1_ownerAt := goodIn_r _ [13, 1, 14, 15, 16, 6, 17, 18, 19, 20, 21, 22, 23, 8, 35, 36, 37, 38, 39, 40] (by decide +kernel) (by decide +kernel)
set_option maxRecDepth 20000 in
theorem gX1_knownTo_X1_ownerAt : GoodIn wsX1_knownTo (wsV RX1 46 RX1 yX1_ownerAt wsX1_ownerAt) := goodIn_app (goodIn_of _ (by decide +kernel)) ggX1_knownTo_X1_ownerAt
set_option maxRecDepth 20000 in
theorem ggX1_knownTo_X2_headOf : GoodIn wsX1_knownTo wsX2_headOf := goodIn_r _ [28, 29, 30, 15, 16, 6, 17, 18, 19, 20, 21, 22, 23, 8, 41, 37, 38, 39, 40] (by decide +kernel) (by decide +kernel)
set_option maxRecDepth 20000 in
theorem gX1_knownTo_X2_headOf : GoodIn wsX1_knownTo (wsV RX1 49 RX2 yX2_headOf wsX2_headOf) := goodIn_app (goodIn_of _ (by decide +kernel)) ggX1_knownTo_X2_headOf
set_option maxRecDepth 20000 in
theorem ggX1_knownTo_X3_at : GoodIn wsX1_knownTo wsX3_at := goodIn_r _ [17, 18, 19, 20, 21, 22, 6, 23, 8, 37, 38, 39, 40] (by decide +kernel) (by decide +kernel)
set_option maxRecDepth 20000 in
theorem gX1_knownTo_X3_at : GoodIn wsX1_knownTo (wsV RX1 28 RX3 yX3_at wsX3_at) := goodIn_app (goodIn_of _ (by decide +kernel)) ggX1_knownTo_X3_at
set_option maxRecDepth 20000 in
theorem ggX1_knownTo_X2_isStruckOut : GoodIn wsX1_knownTo wsX2_isStruckOut := goodIn_r _ [34, 29, 30, 15, 16, 6, 17, 18, 19, 20, 21, 22, 23, 8, 41, 37, 38, 39, 40] (by decide +kernel) (by decide +kernel)
set_option maxRecDepth 20000 in
theorem gX1_knownTo_X2_isStruckOut : GoodIn wsX1_knownTo (wsV RX1 61 RX2 yX2_isStruckOut wsX2_isStruckOut) := goodIn_app (goodIn_of _ (by decide +kernel)) ggX1_knownTo_X2_isStruckOut
theorem dX1_knownTo_0 : decode cX1_knownTo 0 = .ok (.iconst 0, 1) := by decide +kernel
theorem dX1_knownTo_1 : decode cX1_knownTo 1 = .ok (.istore_n 2, 1) := by decide +kernel
theorem dX1_knownTo_2 : decode cX1_knownTo 2 = .ok (.iconst 0, 1) := by decide +kernel
theorem dX1_knownTo_3 : decode cX1_knownTo 3 = .ok (.istore_n 3, 1) := by decide +kernel
theorem dX1_knownTo_4 : decode cX1_knownTo 4 = .ok (.iload_n 3, 1) := by decide +kernel
theorem dX1_knownTo_5 : decode cX1_knownTo 5 = .ok (.aload_n 0, 1) := by decide +kernel
theorem dX1_knownTo_6 : decode cX1_knownTo 6 = .ok (.getfield 16, 3) := by decide +kernel
theorem dX1_knownTo_9 : decode cX1_knownTo 9 = .ok (.invokevirtual 24, 3) := by decide +kernel
theorem dX1_knownTo_12 : decode cX1_knownTo 12 = .ok (.if_icmp .ge 55, 3) := by decide +kernel
theorem dX1_knownTo_15 : decode cX1_knownTo 15 = .ok (.aload_n 0, 1) := by decide +kernel
theorem dX1_knownTo_16 : decode cX1_knownTo 16 = .ok (.getfield 20, 3) := by decide +kernel
theorem dX1_knownTo_19 : decode cX1_knownTo 19 = .ok (.aload_n 0, 1) := by decide +kernel
theorem dX1_knownTo_20 : decode cX1_knownTo 20 = .ok (.iload_n 3, 1) := by decide +kernel
theorem dX1_knownTo_21 : decode cX1_knownTo 21 = .ok (.invokevirtual 46, 3) := by decide +kernel
theorem dX1_knownTo_24 : decode cX1_knownTo 24 = .ok (.invokevirtual 49, 3) := by decide +kernel
theorem dX1_knownTo_27 : decode cX1_knownTo 27 = .ok (.istore 4, 2) := by decide +kernel
theorem dX1_knownTo_29 : decode cX1_knownTo 29 = .ok (.aload_n 0, 1) := by decide +kernel
theorem dX1_knownTo_30 : decode cX1_knownTo 30 = .ok (.getfield 16, 3) := by decide +kernel
theorem dX1_knownTo_33 : decode cX1_knownTo 33 = .ok (.iload_n 3, 1) := by decide +kernel
theorem dX1_knownTo_34 : decode cX1_knownTo 34 = .ok (.iconst 0, 1) := by decide +kernel
theorem dX1_knownTo_35 : decode cX1_knownTo 35 = .ok (.invokevirtual 28, 3) := by decide +kernel
theorem dX1_knownTo_38 : decode cX1_knownTo 38 = .ok (.iload_n 1, 1) := by decide +kernel
theorem dX1_knownTo_39 : decode cX1_knownTo 39 = .ok (.if_icmp .ne 22, 3) := by decide +kernel
theorem dX1_knownTo_42 : decode cX1_knownTo 42 = .ok (.aload_n 0, 1) := by decide +kernel
theorem dX1_knownTo_43 : decode cX1_knownTo 43 = .ok (.getfield 20, 3) := by decide +kernel
theorem dX1_knownTo_46 : decode cX1_knownTo 46 = .ok (.iload 4, 2) := by decide +kernel
theorem dX1_knownTo_48 : decode cX1_knownTo 48 = .ok (.invokevirtual 61, 3) := by decide +kernel
theorem dX1_knownTo_51 : decode cX1_knownTo 51 = .ok (.ifCond .ne 10, 3) := by decide +kernel
theorem dX1_knownTo_54 : decode cX1_knownTo 54 = .ok (.iload_n 2, 1) := by decide +kernel
theorem dX1_knownTo_55 : decode cX1_knownTo 55 = .ok (.iconst 1, 1) := by decide +kernel
theorem dX1_knownTo_56 : decode cX1_knownTo 56 = .ok (.iload 4, 2) := by decide +kernel
theorem dX1_knownTo_58 : decode cX1_knownTo 58 = .ok (.ishl, 1) := by decide +kernel
theorem dX1_knownTo_59 : decode cX1_knownTo 59 = .ok (.ior, 1) := by decide +kernel
theorem dX1_knownTo_60 : decode cX1_knownTo 60 = .ok (.istore_n 2, 1) := by decide +kernel
theorem dX1_knownTo_61 : decode cX1_knownTo 61 = .ok (.iinc 3 1, 3) := by decide +kernel
theorem dX1_knownTo_64 : decode cX1_knownTo 64 = .ok (.goto (-60), 3) := by decide +kernel
theorem dX1_knownTo_67 : decode cX1_knownTo 67 = .ok (.iload_n 2, 1) := by decide +kernel
theorem dX1_knownTo_68 : decode cX1_knownTo 68 = .ok (.ireturn, 1) := by decide +kernel
set_option maxRecDepth 20000 in
theorem ggX1_countWith_X3_size : GoodIn wsX1_countWith wsX3_size := goodIn_r _ [6, 7, 20, 21, 22, 23] (by decide +kernel) (by decide +kernel)
set_option maxRecDepth 20000 in
theorem gX1_countWith_X3_size : GoodIn wsX1_countWith (wsV RX1 24 RX3 yX3_size wsX3_size) := goodIn_app (goodIn_of _ (by decide +kernel)) ggX1_countWith_X3_size
set_option maxRecDepth 20000 in
theorem ggX1_countWith_X3_at : GoodIn wsX1_countWith wsX3_at := goodIn_r _ [11, 12, 13, 14, 15, 16, 5, 17, 7, 20, 21, 22, 23] (by decide +kernel) (by decide +kernel)
set_option maxRecDepth 20000 in
theorem gX1_countWith_X3_at : GoodIn wsX1_countWith (wsV RX1 28 RX3 yX3_at wsX3_at) := goodIn_app (goodIn_of _ (by decide +kernel)) ggX1_countWith_X3_at
theorem dX1_countWith_0 : decode cX1_countWith 0 = .ok (.iconst 0, 1) := by decide +kernel
theorem dX1_countWith_1 : decode cX1_countWith 1 = .ok (.istore_n 3, 1) := by decide +kernel
theorem dX1_countWith_2 : decode cX1_countWith 2 = .ok (.iconst 0, 1) := by decide +kernel
theorem dX1_countWith_3 : decode cX1_countWith 3 = .ok (.istore 4, 2) := by decide +kernel
theorem dX1_countWith_5 : decode cX1_countWith 5 = .ok (.iload 4, 2) := by decide +kernel
theorem dX1_countWith_7 : decode cX1_countWith 7 = .ok (.aload_n 0, 1) := by decide +kernel
theorem dX1_countWith_8 : decode cX1_countWith 8 = .ok (.getfield 16, 3) := by decide +kernel
theorem dX1_countWith_11 : decode cX1_countWith 11 = .ok (.invokevirtual 24, 3) := by decide +kernel
theorem dX1_countWith_14 : decode cX1_countWith 14 = .ok (.if_icmp .ge 26, 3) := by decide +kernel
theorem dX1_countWith_17 : decode cX1_countWith 17 = .ok (.aload_n 0, 1) := by decide +kernel
theorem dX1_countWith_18 : decode cX1_countWith 18 = .ok (.getfield 16, 3) := by decide +kernel
theorem dX1_countWith_21 : decode cX1_countWith 21 = .ok (.iload 4, 2) := by decide +kernel
theorem dX1_countWith_23 : decode cX1_countWith 23 = .ok (.iload_n 1, 1) := by decide +kernel
theorem dX1_countWith_24 : decode cX1_countWith 24 = .ok (.invokevirtual 28, 3) := by decide +kernel
theorem dX1_countWith_27 : decode cX1_countWith 27 = .ok (.iload_n 2, 1) := by decide +kernel
theorem dX1_countWith_28 : decode cX1_countWith 28 = .ok (.if_icmp .ne 6, 3) := by decide +kernel
theorem dX1_countWith_31 : decode cX1_countWith 31 = .ok (.iinc 3 1, 3) := by decide +kernel
theorem dX1_countWith_34 : decode cX1_countWith 34 = .ok (.iinc 4 1, 3) := by decide +kernel
theorem dX1_countWith_37 : decode cX1_countWith 37 = .ok (.goto (-32), 3) := by decide +kernel
theorem dX1_countWith_40 : decode cX1_countWith 40 = .ok (.iload_n 3, 1) := by decide +kernel
theorem dX1_countWith_41 : decode cX1_countWith 41 = .ok (.ireturn, 1) := by decide +kernel
set_option maxRecDepth 20000 in
theorem ggX2_init_X3_init : GoodIn wsX2_init wsX3_init := goodIn_r _ [10, 11, 2, 3, 12, 13, 14, 15, 16, 17, 18, 19, 20, 21, 22, 23, 24] (by decide +kernel) (by decide +kernel)
set_option maxRecDepth 20000 in
theorem gX2_init_X3_init : GoodIn wsX2_init (wsX3_init) := ggX2_init_X3_init
theorem dX2_init_0 : decode cX2_init 0 = .ok (.aload_n 0, 1) := by decide +kernel
theorem dX2_init_1 : decode cX2_init 1 = .ok (.invokespecial 3, 3) := by decide +kernel
theorem dX2_init_4 : decode cX2_init 4 = .ok (.aload_n 0, 1) := by decide +kernel
theorem dX2_init_5 : decode cX2_init 5 = .ok (.new 9, 3) := by decide +kernel
theorem dX2_init_8 : decode cX2_init 8 = .ok (.dup, 1) := by decide +kernel
theorem dX2_init_9 : decode cX2_init 9 = .ok (.bipush 24, 2) := by decide +kernel
theorem dX2_init_11 : decode cX2_init 11 = .ok (.bipush 6, 2) := by decide +kernel
theorem dX2_init_13 : decode cX2_init 13 = .ok (.invokespecial 13, 3) := by decide +kernel
theorem dX2_init_16 : decode cX2_init 16 = .ok (.putfield 16, 3) := by decide +kernel
theorem dX2_init_19 : decode cX2_init 19 = .ok (.return_, 1) := by decide +kernel
theorem dX2_isMark_0 : decode cX2_isMark 0 = .ok (.iload_n 0, 1) := by decide +kernel
theorem dX2_isMark_1 : decode cX2_isMark 1 = .ok (.ifCond .lt 12, 3) := by decide +kernel
theorem dX2_isMark_4 : decode cX2_isMark 4 = .ok (.iload_n 0, 1) := by decide +kernel
theorem dX2_isMark_5 : decode cX2_isMark 5 = .ok (.iconst 4, 1) := by decide +kernel
theorem dX2_isMark_6 : decode cX2_isMark 6 = .ok (.if_icmp .ge 7, 3) := by decide +kernel
theorem dX2_isMark_9 : decode cX2_isMark 9 = .ok (.iconst 1, 1) := by decide +kernel
theorem dX2_isMark_10 : decode cX2_isMark 10 = .ok (.goto 4, 3) := by decide +kernel
theorem dX2_isMark_13 : decode cX2_isMark 13 = .ok (.iconst 0, 1) := by decide +kernel
theorem dX2_isMark_14 : decode cX2_isMark 14 = .ok (.ireturn, 1) := by decide +kernel
theorem dX2_isMarkNumber_0 : decode cX2_isMarkNumber 0 = .ok (.iload_n 0, 1) := by decide +kernel
theorem dX2_isMarkNumber_1 : decode cX2_isMarkNumber 1 = .ok (.ifCond .lt 13, 3) := by decide +kernel
theorem dX2_isMarkNumber_4 : decode cX2_isMarkNumber 4 = .ok (.iload_n 0, 1) := by decide +kernel
theorem dX2_isMarkNumber_5 : decode cX2_isMarkNumber 5 = .ok (.bipush 7, 2) := by decide +kernel
theorem dX2_isMarkNumber_7 : decode cX2_isMarkNumber 7 = .ok (.if_icmp .gt 7, 3) := by decide +kernel
theorem dX2_isMarkNumber_10 : decode cX2_isMarkNumber 10 = .ok (.iconst 1, 1) := by decide +kernel
theorem dX2_isMarkNumber_11 : decode cX2_isMarkNumber 11 = .ok (.goto 4, 3) := by decide +kernel
theorem dX2_isMarkNumber_14 : decode cX2_isMarkNumber 14 = .ok (.iconst 0, 1) := by decide +kernel
theorem dX2_isMarkNumber_15 : decode cX2_isMarkNumber 15 = .ok (.ireturn, 1) := by decide +kernel
set_option maxRecDepth 20000 in
theorem ggX2_size_X3_size : GoodIn wsX2_size wsX3_size := goodIn_r _ [6, 7, 9, 10, 11, 12] (by decide +kernel) (by decide +kernel)
set_option maxRecDepth 20000 in
theorem gX2_size_X3_size : GoodIn wsX2_size (wsV RX2 20 RX3 yX3_size wsX3_size) := goodIn_app (goodIn_of _ (by decide +kernel)) ggX2_size_X3_size
theorem dX2_size_0 : decode cX2_size 0 = .ok (.aload_n 0, 1) := by decide +kernel
theorem dX2_size_1 : decode cX2_size 1 = .ok (.getfield 16, 3) := by decide +kernel
theorem dX2_size_4 : decode cX2_size 4 = .ok (.invokevirtual 20, 3) := by decide +kernel
theorem dX2_size_7 : decode cX2_size 7 = .ok (.ireturn, 1) := by decide +kernel
set_option maxRecDepth 20000 in
theorem ggX2_isThere_X3_isThere : GoodIn wsX2_isThere wsX3_isThere := goodIn_r _ [6, 7, 9, 10, 11, 12] (by decide +kernel) (by decide +kernel)
set_option maxRecDepth 20000 in
theorem gX2_isThere_X3_isThere : GoodIn wsX2_isThere (wsV RX2 24 RX3 yX3_isThere wsX3_isThere) := goodIn_app (goodIn_of _ (by decide +kernel)) ggX2_isThere_X3_isThere
theorem dX2_isThere_0 : decode cX2_isThere 0 = .ok (.aload_n 0, 1) := by decide +kernel
theorem dX2_isThere_1 : decode cX2_isThere 1 = .ok (.getfield 16, 3) := by decide +kernel
theorem dX2_isThere_4 : decode cX2_isThere 4 = .ok (.iload_n 1, 1) := by decide +kernel
theorem dX2_isThere_5 : decode cX2_isThere 5 = .ok (.invokevirtual 24, 3) := by decide +kernel
theorem dX2_isThere_8 : decode cX2_isThere 8 = .ok (.ireturn, 1) := by decide +kernel
set_option maxRecDepth 20000 in
theorem ggX2_add_X2_isMarkNumber : GoodIn wsX2_add wsX2_isMarkNumber := goodIn_r _ [5] (by decide +kernel) (by decide +kernel)
set_option maxRecDepth 20000 in
theorem gX2_add_X2_isMarkNumber : GoodIn wsX2_add (va_wsS RX2 28 yX2_isMarkNumber wsX2_isMarkNumber) := goodIn_app (goodIn_of _ (by decide +kernel)) ggX2_add_X2_isMarkNumber
set_option maxRecDepth 20000 in
theorem ggX2_add_X3_addRow : GoodIn wsX2_add wsX3_addRow := goodIn_r _ [10, 11, 12, 13, 14, 9, 15, 16, 28, 29, 30, 31] (by decide +kernel) (by decide +kernel)
set_option maxRecDepth 20000 in
theorem gX2_add_X3_addRow : GoodIn wsX2_add (wsV RX2 31 RX3 yX3_addRow wsX3_addRow) := goodIn_app (goodIn_of _ (by decide +kernel)) ggX2_add_X3_addRow
set_option maxRecDepth 20000 in
theorem ggX2_add_X3_put : GoodIn wsX2_add wsX3_put := goodIn_r _ [20, 21, 22, 23, 24, 25, 9, 26, 11, 28, 29, 30, 31] (by decide +kernel) (by decide +kernel)
set_option maxRecDepth 20000 in
theorem gX2_add_X3_put : GoodIn wsX2_add (wsV RX2 34 RX3 yX3_put wsX3_put) := goodIn_app (goodIn_of _ (by decide +kernel)) ggX2_add_X3_put
theorem dX2_add_0 : decode cX2_add 0 = .ok (.iload_n 1, 1) := by decide +kernel
theorem dX2_add_1 : decode cX2_add 1 = .ok (.invokestatic 28, 3) := by decide +kernel
theorem dX2_add_4 : decode cX2_add 4 = .ok (.ifCond .eq 25, 3) := by decide +kernel
theorem dX2_add_7 : decode cX2_add 7 = .ok (.iload_n 2, 1) := by decide +kernel
theorem dX2_add_8 : decode cX2_add 8 = .ok (.invokestatic 28, 3) := by decide +kernel
theorem dX2_add_11 : decode cX2_add 11 = .ok (.ifCond .eq 18, 3) := by decide +kernel
theorem dX2_add_14 : decode cX2_add 14 = .ok (.iload_n 3, 1) := by decide +kernel
theorem dX2_add_15 : decode cX2_add 15 = .ok (.invokestatic 28, 3) := by decide +kernel
theorem dX2_add_18 : decode cX2_add 18 = .ok (.ifCond .eq 11, 3) := by decide +kernel
theorem dX2_add_21 : decode cX2_add 21 = .ok (.iload 4, 2) := by decide +kernel
theorem dX2_add_23 : decode cX2_add 23 = .ok (.invokestatic 28, 3) := by decide +kernel
theorem dX2_add_26 : decode cX2_add 26 = .ok (.ifCond .ne 5, 3) := by decide +kernel
theorem dX2_add_29 : decode cX2_add 29 = .ok (.iconst (-1), 1) := by decide +kernel
theorem dX2_add_30 : decode cX2_add 30 = .ok (.ireturn, 1) := by decide +kernel
theorem dX2_add_31 : decode cX2_add 31 = .ok (.aload_n 0, 1) := by decide +kernel
theorem dX2_add_32 : decode cX2_add 32 = .ok (.getfield 16, 3) := by decide +kernel
theorem dX2_add_35 : decode cX2_add 35 = .ok (.invokevirtual 31, 3) := by decide +kernel
theorem dX2_add_38 : decode cX2_add 38 = .ok (.istore 5, 2) := by decide +kernel
theorem dX2_add_40 : decode cX2_add 40 = .ok (.aload_n 0, 1) := by decide +kernel
theorem dX2_add_41 : decode cX2_add 41 = .ok (.getfield 16, 3) := by decide +kernel
theorem dX2_add_44 : decode cX2_add 44 = .ok (.iload 5, 2) := by decide +kernel
theorem dX2_add_46 : decode cX2_add 46 = .ok (.iconst 0, 1) := by decide +kernel
theorem dX2_add_47 : decode cX2_add 47 = .ok (.iload_n 1, 1) := by decide +kernel
theorem dX2_add_48 : decode cX2_add 48 = .ok (.invokevirtual 34, 3) := by decide +kernel
theorem dX2_add_51 : decode cX2_add 51 = .ok (.aload_n 0, 1) := by decide +kernel
theorem dX2_add_52 : decode cX2_add 52 = .ok (.getfield 16, 3) := by decide +kernel
theorem dX2_add_55 : decode cX2_add 55 = .ok (.iload 5, 2) := by decide +kernel
theorem dX2_add_57 : decode cX2_add 57 = .ok (.iconst 1, 1) := by decide +kernel
theorem dX2_add_58 : decode cX2_add 58 = .ok (.iload_n 2, 1) := by decide +kernel
theorem dX2_add_59 : decode cX2_add 59 = .ok (.invokevirtual 34, 3) := by decide +kernel
theorem dX2_add_62 : decode cX2_add 62 = .ok (.aload_n 0, 1) := by decide +kernel
theorem dX2_add_63 : decode cX2_add 63 = .ok (.getfield 16, 3) := by decide +kernel
theorem dX2_add_66 : decode cX2_add 66 = .ok (.iload 5, 2) := by decide +kernel
theorem dX2_add_68 : decode cX2_add 68 = .ok (.iconst 2, 1) := by decide +kernel
theorem dX2_add_69 : decode cX2_add 69 = .ok (.iload_n 3, 1) := by decide +kernel
theorem dX2_add_70 : decode cX2_add 70 = .ok (.invokevirtual 34, 3) := by decide +kernel
theorem dX2_add_73 : decode cX2_add 73 = .ok (.aload_n 0, 1) := by decide +kernel
theorem dX2_add_74 : decode cX2_add 74 = .ok (.getfield 16, 3) := by decide +kernel
theorem dX2_add_77 : decode cX2_add 77 = .ok (.iload 5, 2) := by decide +kernel
theorem dX2_add_79 : decode cX2_add 79 = .ok (.iconst 3, 1) := by decide +kernel
theorem dX2_add_80 : decode cX2_add 80 = .ok (.iload 4, 2) := by decide +kernel
theorem dX2_add_82 : decode cX2_add 82 = .ok (.invokevirtual 34, 3) := by decide +kernel
theorem dX2_add_85 : decode cX2_add 85 = .ok (.aload_n 0, 1) := by decide +kernel
theorem dX2_add_86 : decode cX2_add 86 = .ok (.getfield 16, 3) := by decide +kernel
theorem dX2_add_89 : decode cX2_add 89 = .ok (.iload 5, 2) := by decide +kernel
theorem dX2_add_91 : decode cX2_add 91 = .ok (.iconst 4, 1) := by decide +kernel
theorem dX2_add_92 : decode cX2_add 92 = .ok (.iconst (-1), 1) := by decide +kernel
theorem dX2_add_93 : decode cX2_add 93 = .ok (.invokevirtual 34, 3) := by decide +kernel
theorem dX2_add_96 : decode cX2_add 96 = .ok (.aload_n 0, 1) := by decide +kernel
theorem dX2_add_97 : decode cX2_add 97 = .ok (.getfield 16, 3) := by decide +kernel
theorem dX2_add_100 : decode cX2_add 100 = .ok (.iload 5, 2) := by decide +kernel
theorem dX2_add_102 : decode cX2_add 102 = .ok (.iconst 5, 1) := by decide +kernel
theorem dX2_add_103 : decode cX2_add 103 = .ok (.iconst 0, 1) := by decide +kernel
theorem dX2_add_104 : decode cX2_add 104 = .ok (.invokevirtual 34, 3) := by decide +kernel
theorem dX2_add_107 : decode cX2_add 107 = .ok (.iload 5, 2) := by decide +kernel
theorem dX2_add_109 : decode cX2_add 109 = .ok (.ireturn, 1) := by decide +kernel
set_option maxRecDepth 20000 in
theorem ggX2_setMark_X2_isThere : GoodIn wsX2_setMark wsX2_isThere := goodIn_r _ [6, 1, 7, 8, 9, 10, 11, 12, 29, 30, 31, 32, 33] (by decide +kernel) (by decide +kernel)
set_option maxRecDepth 20000 in
theorem gX2_setMark_X2_isThere : GoodIn wsX2_setMark (wsV RX2 38 RX2 yX2_isThere wsX2_isThere) := goodIn_app (goodIn_of _ (by decide +kernel)) ggX2_setMark_X2_isThere
set_option maxRecDepth 20000 in
theorem ggX2_setMark_X2_isMark : GoodIn wsX2_setMark wsX2_isMark := goodIn_r _ [15] (by decide +kernel) (by decide +kernel)
set_option maxRecDepth 20000 in
theorem gX2_setMark_X2_isMark : GoodIn wsX2_setMark (va_wsS RX2 39 yX2_isMark wsX2_isMark) := goodIn_app (goodIn_of _ (by decide +kernel)) ggX2_setMark_X2_isMark
set_option maxRecDepth 20000 in
theorem ggX2_setMark_X2_isMarkNumber : GoodIn wsX2_setMark wsX2_isMarkNumber := goodIn_r _ [18] (by decide +kernel) (by decide +kernel)
set_option maxRecDepth 20000 in
theorem gX2_setMark_X2_isMarkNumber : GoodIn wsX2_setMark (va_wsS RX2 28 yX2_isMarkNumber wsX2_isMarkNumber) := goodIn_app (goodIn_of _ (by decide +kernel)) ggX2_setMark_X2_isMarkNumber
set_option maxRecDepth 20000 in
theorem ggX2_setMark_X3_put : GoodIn wsX2_setMark wsX3_put := goodIn_r _ [22, 23, 24, 25, 26, 27, 10, 28, 12, 30, 31, 32, 33] (by decide +kernel) (by decide +kernel)
set_option maxRecDepth 20000 in
theorem gX2_setMark_X3_put : GoodIn wsX2_setMark (wsV RX2 34 RX3 yX3_put wsX3_put) := goodIn_app (goodIn_of _ (by decide +kernel)) ggX2_setMark_X3_put
theorem dX2_setMark_0 : decode cX2_setMark 0 = .ok (.aload_n 0, 1) := by decide +kernel
theorem dX2_setMark_1 : decode cX2_setMark 1 = .ok (.iload_n 1, 1) := by decide +kernel
theorem dX2_setMark_2 : decode cX2_setMark 2 = .ok (.invokevirtual 38, 3) := by decide +kernel
theorem dX2_setMark_5 : decode cX2_setMark 5 = .ok (.ifCond .eq 17, 3) := by decide +kernel
theorem dX2_setMark_8 : decode cX2_setMark 8 = .ok (.iload_n 2, 1) := by decide +kernel
theorem dX2_setMark_9 : decode cX2_setMark 9 = .ok (.invokestatic 39, 3) := by decide +kernel
theorem dX2_setMark_12 : decode cX2_setMark 12 = .ok (.ifCond .eq 10, 3) := by decide +kernel
theorem dX2_setMark_15 : decode cX2_setMark 15 = .ok (.iload_n 3, 1) := by decide +kernel
theorem dX2_setMark_16 : decode cX2_setMark 16 = .ok (.invokestatic 28, 3) := by decide +kernel
theorem dX2_setMark_19 : decode cX2_setMark 19 = .ok (.ifCond .ne 5, 3) := by decide +kernel
theorem dX2_setMark_22 : decode cX2_setMark 22 = .ok (.iconst 0, 1) := by decide +kernel
theorem dX2_setMark_23 : decode cX2_setMark 23 = .ok (.ireturn, 1) := by decide +kernel
theorem dX2_setMark_24 : decode cX2_setMark 24 = .ok (.aload_n 0, 1) := by decide +kernel
theorem dX2_setMark_25 : decode cX2_setMark 25 = .ok (.getfield 16, 3) := by decide +kernel
theorem dX2_setMark_28 : decode cX2_setMark 28 = .ok (.iload_n 1, 1) := by decide +kernel
theorem dX2_setMark_29 : decode cX2_setMark 29 = .ok (.iload_n 2, 1) := by decide +kernel
theorem dX2_setMark_30 : decode cX2_setMark 30 = .ok (.iload_n 3, 1) := by decide +kernel
theorem dX2_setMark_31 : decode cX2_setMark 31 = .ok (.invokevirtual 34, 3) := by decide +kernel
theorem dX2_setMark_34 : decode cX2_setMark 34 = .ok (.iconst 1, 1) := by decide +kernel
theorem dX2_setMark_35 : decode cX2_setMark 35 = .ok (.ireturn, 1) := by decide +kernel
set_option maxRecDepth 20000 in
theorem ggX2_markOf_X2_isMark : GoodIn wsX2_markOf wsX2_isMark := goodIn_r _ [5] (by decide +kernel) (by decide +kernel)
set_option maxRecDepth 20000 in
theorem gX2_markOf_X2_isMark : GoodIn wsX2_markOf (va_wsS RX2 39 yX2_isMark wsX2_isMark) := goodIn_app (goodIn_of _ (by decide +kernel)) ggX2_markOf_X2_isMark
set_option maxRecDepth 20000 in
theorem ggX2_markOf_X3_at : GoodIn wsX2_markOf wsX3_at := goodIn_r _ [10, 11, 12, 13, 14, 15, 9, 16, 17, 19, 20, 21, 22] (by decide +kernel) (by decide +kernel)
set_option maxRecDepth 20000 in
theorem gX2_markOf_X3_at : GoodIn wsX2_markOf (wsV RX2 42 RX3 yX3_at wsX3_at) := goodIn_app (goodIn_of _ (by decide +kernel)) ggX2_markOf_X3_at
theorem dX2_markOf_0 : decode cX2_markOf 0 = .ok (.iload_n 2, 1) := by decide +kernel
theorem dX2_markOf_1 : decode cX2_markOf 1 = .ok (.invokestatic 39, 3) := by decide +kernel
theorem dX2_markOf_4 : decode cX2_markOf 4 = .ok (.ifCond .eq 15, 3) := by decide +kernel
theorem dX2_markOf_7 : decode cX2_markOf 7 = .ok (.aload_n 0, 1) := by decide +kernel
theorem dX2_markOf_8 : decode cX2_markOf 8 = .ok (.getfield 16, 3) := by decide +kernel
theorem dX2_markOf_11 : decode cX2_markOf 11 = .ok (.iload_n 1, 1) := by decide +kernel
theorem dX2_markOf_12 : decode cX2_markOf 12 = .ok (.iload_n 2, 1) := by decide +kernel
theorem dX2_markOf_13 : decode cX2_markOf 13 = .ok (.invokevirtual 42, 3) := by decide +kernel
theorem dX2_markOf_16 : decode cX2_markOf 16 = .ok (.goto 4, 3) := by decide +kernel
theorem dX2_markOf_19 : decode cX2_markOf 19 = .ok (.iconst (-1), 1) := by decide +kernel
theorem dX2_markOf_20 : decode cX2_markOf 20 = .ok (.ireturn, 1) := by decide +kernel
set_option maxRecDepth 20000 in
theorem ggX2_holderOf_X3_at : GoodIn wsX2_holderOf wsX3_at := goodIn_r _ [6, 7, 8, 9, 10, 11, 5, 12, 13, 15, 16, 17, 18] (by decide +kernel) (by decide +kernel)
set_option maxRecDepth 20000 in
theorem gX2_holderOf_X3_at : GoodIn wsX2_holderOf (wsV RX2 42 RX3 yX3_at wsX3_at) := goodIn_app (goodIn_of _ (by decide +kernel)) ggX2_holderOf_X3_at
theorem dX2_holderOf_0 : decode cX2_holderOf 0 = .ok (.aload_n 0, 1) := by decide +kernel
theorem dX2_holderOf_1 : decode cX2_holderOf 1 = .ok (.getfield 16, 3) := by decide +kernel
theorem dX2_holderOf_4 : decode cX2_holderOf 4 = .ok (.iload_n 1, 1) := by decide +kernel
theorem dX2_holderOf_5 : decode cX2_holderOf 5 = .ok (.iconst 4, 1) := by decide +kernel
theorem dX2_holderOf_6 : decode cX2_holderOf 6 = .ok (.invokevirtual 42, 3) := by decide +kernel
theorem dX2_holderOf_9 : decode cX2_holderOf 9 = .ok (.ireturn, 1) := by decide +kernel
set_option maxRecDepth 20000 in
theorem ggX2_headOf_X3_at : GoodIn wsX2_headOf wsX3_at := goodIn_r _ [6, 7, 8, 9, 10, 11, 5, 12, 13, 15, 16, 17, 18] (by decide +kernel) (by decide +kernel)
set_option maxRecDepth 20000 in
theorem gX2_headOf_X3_at : GoodIn wsX2_headOf (wsV RX2 42 RX3 yX3_at wsX3_at) := goodIn_app (goodIn_of _ (by decide +kernel)) ggX2_headOf_X3_at
theorem dX2_headOf_0 : decode cX2_headOf 0 = .ok (.iload_n 1, 1) := by decide +kernel
theorem dX2_headOf_1 : decode cX2_headOf 1 = .ok (.istore_n 2, 1) := by decide +kernel
theorem dX2_headOf_2 : decode cX2_headOf 2 = .ok (.iconst 0, 1) := by decide +kernel
theorem dX2_headOf_3 : decode cX2_headOf 3 = .ok (.istore_n 3, 1) := by decide +kernel
theorem dX2_headOf_4 : decode cX2_headOf 4 = .ok (.iload_n 3, 1) := by decide +kernel
theorem dX2_headOf_5 : decode cX2_headOf 5 = .ok (.bipush 24, 2) := by decide +kernel
theorem dX2_headOf_7 : decode cX2_headOf 7 = .ok (.if_icmp .ge 32, 3) := by decide +kernel
theorem dX2_headOf_10 : decode cX2_headOf 10 = .ok (.aload_n 0, 1) := by decide +kernel
theorem dX2_headOf_11 : decode cX2_headOf 11 = .ok (.getfield 16, 3) := by decide +kernel
theorem dX2_headOf_14 : decode cX2_headOf 14 = .ok (.iload_n 2, 1) := by decide +kernel
theorem dX2_headOf_15 : decode cX2_headOf 15 = .ok (.iconst 4, 1) := by decide +kernel
theorem dX2_headOf_16 : decode cX2_headOf 16 = .ok (.invokevirtual 42, 3) := by decide +kernel
theorem dX2_headOf_19 : decode cX2_headOf 19 = .ok (.iconst (-1), 1) := by decide +kernel
theorem dX2_headOf_20 : decode cX2_headOf 20 = .ok (.if_icmp .eq 19, 3) := by decide +kernel
theorem dX2_headOf_23 : decode cX2_headOf 23 = .ok (.aload_n 0, 1) := by decide +kernel
theorem dX2_headOf_24 : decode cX2_headOf 24 = .ok (.getfield 16, 3) := by decide +kernel
theorem dX2_headOf_27 : decode cX2_headOf 27 = .ok (.iload_n 2, 1) := by decide +kernel
theorem dX2_headOf_28 : decode cX2_headOf 28 = .ok (.iconst 4, 1) := by decide +kernel
theorem dX2_headOf_29 : decode cX2_headOf 29 = .ok (.invokevirtual 42, 3) := by decide +kernel
theorem dX2_headOf_32 : decode cX2_headOf 32 = .ok (.istore_n 2, 1) := by decide +kernel
theorem dX2_headOf_33 : decode cX2_headOf 33 = .ok (.iinc 3 1, 3) := by decide +kernel
theorem dX2_headOf_36 : decode cX2_headOf 36 = .ok (.goto (-32), 3) := by decide +kernel
theorem dX2_headOf_39 : decode cX2_headOf 39 = .ok (.iload_n 2, 1) := by decide +kernel
theorem dX2_headOf_40 : decode cX2_headOf 40 = .ok (.ireturn, 1) := by decide +kernel
set_option maxRecDepth 20000 in
theorem ggX2_isStruckOut_X3_at : GoodIn wsX2_isStruckOut wsX3_at := goodIn_r _ [6, 7, 8, 9, 10, 11, 5, 12, 13, 15, 16, 17, 18] (by decide +kernel) (by decide +kernel)
set_option maxRecDepth 20000 in
theorem gX2_isStruckOut_X3_at : GoodIn wsX2_isStruckOut (wsV RX2 42 RX3 yX3_at wsX3_at) := goodIn_app (goodIn_of _ (by decide +kernel)) ggX2_isStruckOut_X3_at
theorem dX2_isStruckOut_0 : decode cX2_isStruckOut 0 = .ok (.aload_n 0, 1) := by decide +kernel
theorem dX2_isStruckOut_1 : decode cX2_isStruckOut 1 = .ok (.getfield 16, 3) := by decide +kernel
theorem dX2_isStruckOut_4 : decode cX2_isStruckOut 4 = .ok (.iload_n 1, 1) := by decide +kernel
theorem dX2_isStruckOut_5 : decode cX2_isStruckOut 5 = .ok (.iconst 5, 1) := by decide +kernel
theorem dX2_isStruckOut_6 : decode cX2_isStruckOut 6 = .ok (.invokevirtual 42, 3) := by decide +kernel
theorem dX2_isStruckOut_9 : decode cX2_isStruckOut 9 = .ok (.iconst 1, 1) := by decide +kernel
theorem dX2_isStruckOut_10 : decode cX2_isStruckOut 10 = .ok (.if_icmp .ne 7, 3) := by decide +kernel
theorem dX2_isStruckOut_13 : decode cX2_isStruckOut 13 = .ok (.iconst 1, 1) := by decide +kernel
theorem dX2_isStruckOut_14 : decode cX2_isStruckOut 14 = .ok (.goto 4, 3) := by decide +kernel
theorem dX2_isStruckOut_17 : decode cX2_isStruckOut 17 = .ok (.iconst 0, 1) := by decide +kernel
theorem dX2_isStruckOut_18 : decode cX2_isStruckOut 18 = .ok (.ireturn, 1) := by decide +kernel
set_option maxRecDepth 20000 in
theorem ggX2_join_X2_isHead : GoodIn wsX2_join wsX2_isHead := goodIn_r _ [6, 7, 8, 9, 5, 10, 1, 11, 12, 13, 14, 15, 16, 17, 18, 19, 20, 21, 22, 23, 24, 25, 26, 27, 28, 29, 30, 47, 48, 49, 50, 51] (by decide +kernel) (by decide +kernel)
set_option maxRecDepth 20000 in
theorem gX2_join_X2_isHead : GoodIn wsX2_join (wsV RX2 46 RX2 yX2_isHead wsX2_isHead) := goodIn_app (goodIn_of _ (by decide +kernel)) ggX2_join_X2_isHead
set_option maxRecDepth 20000 in
theorem ggX2_join_X3_put : GoodIn wsX2_join wsX3_put := goodIn_r _ [34, 25, 26, 27, 28, 29, 14, 30, 16, 48, 49, 50, 51] (by decide +kernel) (by decide +kernel)
set_option maxRecDepth 20000 in
theorem gX2_join_X3_put : GoodIn wsX2_join (wsV RX2 34 RX3 yX3_put wsX3_put) := goodIn_app (goodIn_of _ (by decide +kernel)) ggX2_join_X3_put
set_option maxRecDepth 20000 in
theorem ggX2_join_X2_isStruckOut : GoodIn wsX2_join wsX2_isStruckOut := goodIn_r _ [38, 1, 21, 22, 23, 14, 24, 25, 26, 27, 28, 29, 30, 16, 47, 48, 49, 50, 51] (by decide +kernel) (by decide +kernel)
set_option maxRecDepth 20000 in
theorem gX2_join_X2_isStruckOut : GoodIn wsX2_join (wsV RX2 49 RX2 yX2_isStruckOut wsX2_isStruckOut) := goodIn_app (goodIn_of _ (by decide +kernel)) ggX2_join_X2_isStruckOut
set_option maxRecDepth 20000 in
theorem ggX2_join_X2_strikeOutAllUnder : GoodIn wsX2_join wsX2_strikeOutAllUnder := goodIn_r _ [42, 1, 7, 8, 9, 5, 10, 11, 12, 13, 14, 15, 16, 43, 44, 45, 46, 21, 22, 23, 24, 25, 26, 27, 28, 29, 30, 31, 32, 33, 34, 47, 48, 49, 50, 51] (by decide +kernel) (by decide +kernel)
set_option maxRecDepth 20000 in
theorem gX2_join_X2_strikeOutAllUnder : GoodIn wsX2_join (wsV RX2 52 RX2 yX2_strikeOutAllUnder wsX2_strikeOutAllUnder) := goodIn_app (goodIn_of _ (by decide +kernel)) ggX2_join_X2_strikeOutAllUnder
theorem dX2_join_0 : decode cX2_join 0 = .ok (.iload_n 1, 1) := by decide +kernel
theorem dX2_join_1 : decode cX2_join 1 = .ok (.iload_n 2, 1) := by decide +kernel
theorem dX2_join_2 : decode cX2_join 2 = .ok (.if_icmp .eq 19, 3) := by decide +kernel
theorem dX2_join_5 : decode cX2_join 5 = .ok (.aload_n 0, 1) := by decide +kernel
theorem dX2_join_6 : decode cX2_join 6 = .ok (.iload_n 1, 1) := by decide +kernel
theorem dX2_join_7 : decode cX2_join 7 = .ok (.invokevirtual 46, 3) := by decide +kernel
theorem dX2_join_10 : decode cX2_join 10 = .ok (.ifCond .eq 11, 3) := by decide +kernel
theorem dX2_join_13 : decode cX2_join 13 = .ok (.aload_n 0, 1) := by decide +kernel
theorem dX2_join_14 : decode cX2_join 14 = .ok (.iload_n 2, 1) := by decide +kernel
theorem dX2_join_15 : decode cX2_join 15 = .ok (.invokevirtual 46, 3) := by decide +kernel
theorem dX2_join_18 : decode cX2_join 18 = .ok (.ifCond .ne 5, 3) := by decide +kernel
theorem dX2_join_21 : decode cX2_join 21 = .ok (.iconst 0, 1) := by decide +kernel
theorem dX2_join_22 : decode cX2_join 22 = .ok (.ireturn, 1) := by decide +kernel
theorem dX2_join_23 : decode cX2_join 23 = .ok (.aload_n 0, 1) := by decide +kernel
theorem dX2_join_24 : decode cX2_join 24 = .ok (.getfield 16, 3) := by decide +kernel
theorem dX2_join_27 : decode cX2_join 27 = .ok (.iload_n 2, 1) := by decide +kernel
theorem dX2_join_28 : decode cX2_join 28 = .ok (.iconst 4, 1) := by decide +kernel
theorem dX2_join_29 : decode cX2_join 29 = .ok (.iload_n 1, 1) := by decide +kernel
theorem dX2_join_30 : decode cX2_join 30 = .ok (.invokevirtual 34, 3) := by decide +kernel
theorem dX2_join_33 : decode cX2_join 33 = .ok (.aload_n 0, 1) := by decide +kernel
theorem dX2_join_34 : decode cX2_join 34 = .ok (.iload_n 1, 1) := by decide +kernel
theorem dX2_join_35 : decode cX2_join 35 = .ok (.invokevirtual 49, 3) := by decide +kernel
theorem dX2_join_38 : decode cX2_join 38 = .ok (.ifCond .ne 11, 3) := by decide +kernel
theorem dX2_join_41 : decode cX2_join 41 = .ok (.aload_n 0, 1) := by decide +kernel
theorem dX2_join_42 : decode cX2_join 42 = .ok (.iload_n 2, 1) := by decide +kernel
theorem dX2_join_43 : decode cX2_join 43 = .ok (.invokevirtual 49, 3) := by decide +kernel
theorem dX2_join_46 : decode cX2_join 46 = .ok (.ifCond .eq 8, 3) := by decide +kernel
theorem dX2_join_49 : decode cX2_join 49 = .ok (.aload_n 0, 1) := by decide +kernel
theorem dX2_join_50 : decode cX2_join 50 = .ok (.iload_n 1, 1) := by decide +kernel
theorem dX2_join_51 : decode cX2_join 51 = .ok (.invokevirtual 52, 3) := by decide +kernel
theorem dX2_join_54 : decode cX2_join 54 = .ok (.iconst 1, 1) := by decide +kernel
theorem dX2_join_55 : decode cX2_join 55 = .ok (.ireturn, 1) := by decide +kernel
set_option maxRecDepth 20000 in
theorem ggX2_leave_X2_holderOf : GoodIn wsX2_leave wsX2_holderOf := goodIn_r _ [6, 1, 7, 8, 9, 10, 11, 12, 13, 14, 15, 16, 17, 18, 23, 24, 25, 26, 27] (by decide +kernel) (by decide +kernel)
set_option maxRecDepth 20000 in
theorem gX2_leave_X2_holderOf : GoodIn wsX2_leave (wsV RX2 56 RX2 yX2_holderOf wsX2_holderOf) := goodIn_app (goodIn_of _ (by decide +kernel)) ggX2_leave_X2_holderOf
set_option maxRecDepth 20000 in
theorem ggX2_leave_X3_put : GoodIn wsX2_leave wsX3_put := goodIn_r _ [22, 12, 13, 14, 15, 16, 10, 17, 18, 24, 25, 26, 27] (by decide +kernel) (by decide +kernel)
set_option maxRecDepth 20000 in
theorem gX2_leave_X3_put : GoodIn wsX2_leave (wsV RX2 34 RX3 yX3_put wsX3_put) := goodIn_app (goodIn_of _ (by decide +kernel)) ggX2_leave_X3_put
theorem dX2_leave_0 : decode cX2_leave 0 = .ok (.aload_n 0, 1) := by decide +kernel
theorem dX2_leave_1 : decode cX2_leave 1 = .ok (.iload_n 1, 1) := by decide +kernel
theorem dX2_leave_2 : decode cX2_leave 2 = .ok (.invokevirtual 56, 3) := by decide +kernel
theorem dX2_leave_5 : decode cX2_leave 5 = .ok (.iconst (-1), 1) := by decide +kernel
theorem dX2_leave_6 : decode cX2_leave 6 = .ok (.if_icmp .ne 5, 3) := by decide +kernel
theorem dX2_leave_9 : decode cX2_leave 9 = .ok (.iconst 0, 1) := by decide +kernel
theorem dX2_leave_10 : decode cX2_leave 10 = .ok (.ireturn, 1) := by decide +kernel
theorem dX2_leave_11 : decode cX2_leave 11 = .ok (.aload_n 0, 1) := by decide +kernel
theorem dX2_leave_12 : decode cX2_leave 12 = .ok (.getfield 16, 3) := by decide +kernel
theorem dX2_leave_15 : decode cX2_leave 15 = .ok (.iload_n 1, 1) := by decide +kernel
theorem dX2_leave_16 : decode cX2_leave 16 = .ok (.iconst 4, 1) := by decide +kernel
theorem dX2_leave_17 : decode cX2_leave 17 = .ok (.iconst (-1), 1) := by decide +kernel
theorem dX2_leave_18 : decode cX2_leave 18 = .ok (.invokevirtual 34, 3) := by decide +kernel
theorem dX2_leave_21 : decode cX2_leave 21 = .ok (.iconst 1, 1) := by decide +kernel
theorem dX2_leave_22 : decode cX2_leave 22 = .ok (.ireturn, 1) := by decide +kernel
set_option maxRecDepth 20000 in
theorem ggX2_strikeOut_X2_isThere : GoodIn wsX2_strikeOut wsX2_isThere := goodIn_r _ [5, 6, 7, 8, 9, 10, 11, 12, 39, 40, 41, 42, 43] (by decide +kernel) (by decide +kernel)
set_option maxRecDepth 20000 in
theorem gX2_strikeOut_X2_isThere : GoodIn wsX2_strikeOut (wsV RX2 38 RX2 yX2_isThere wsX2_isThere) := goodIn_app (goodIn_of _ (by decide +kernel)) ggX2_strikeOut_X2_isThere
set_option maxRecDepth 20000 in
theorem ggX2_strikeOut_X2_isStruckOut : GoodIn wsX2_strikeOut wsX2_isStruckOut := goodIn_r _ [16, 6, 17, 18, 19, 10, 20, 21, 22, 23, 24, 25, 26, 12, 39, 40, 41, 42, 43] (by decide +kernel) (by decide +kernel)
set_option maxRecDepth 20000 in
theorem gX2_strikeOut_X2_isStruckOut : GoodIn wsX2_strikeOut (wsV RX2 49 RX2 yX2_isStruckOut wsX2_isStruckOut) := goodIn_app (goodIn_of _ (by decide +kernel)) ggX2_strikeOut_X2_isStruckOut
set_option maxRecDepth 20000 in
theorem ggX2_strikeOut_X2_headOf : GoodIn wsX2_strikeOut wsX2_headOf := goodIn_r _ [30, 6, 17, 18, 19, 10, 20, 21, 22, 23, 24, 25, 26, 12, 39, 40, 41, 42, 43] (by decide +kernel) (by decide +kernel)
set_option maxRecDepth 20000 in
theorem gX2_strikeOut_X2_headOf : GoodIn wsX2_strikeOut (wsV RX2 60 RX2 yX2_headOf wsX2_headOf) := goodIn_app (goodIn_of _ (by decide +kernel)) ggX2_strikeOut_X2_headOf
set_option maxRecDepth 20000 in
theorem ggX2_strikeOut_X2_strikeOutAllUnder : GoodIn wsX2_strikeOut wsX2_strikeOutAllUnder := goodIn_r _ [34, 6, 1, 2, 3, 4, 5, 7, 8, 9, 10, 11, 12, 27, 28, 29, 30, 17, 18, 19, 20, 21, 22, 23, 24, 25, 26, 35, 36, 37, 38, 39, 40, 41, 42, 43] (by decide +kernel) (by decide +kernel)
set_option maxRecDepth 20000 in
theorem gX2_strikeOut_X2_strikeOutAllUnder : GoodIn wsX2_strikeOut (wsV RX2 52 RX2 yX2_strikeOutAllUnder wsX2_strikeOutAllUnder) := goodIn_app (goodIn_of _ (by decide +kernel)) ggX2_strikeOut_X2_strikeOutAllUnder
theorem dX2_strikeOut_0 : decode cX2_strikeOut 0 = .ok (.aload_n 0, 1) := by decide +kernel
theorem dX2_strikeOut_1 : decode cX2_strikeOut 1 = .ok (.iload_n 1, 1) := by decide +kernel
theorem dX2_strikeOut_2 : decode cX2_strikeOut 2 = .ok (.invokevirtual 38, 3) := by decide +kernel
theorem dX2_strikeOut_5 : decode cX2_strikeOut 5 = .ok (.ifCond .eq 11, 3) := by decide +kernel
theorem dX2_strikeOut_8 : decode cX2_strikeOut 8 = .ok (.aload_n 0, 1) := by decide +kernel
theorem dX2_strikeOut_9 : decode cX2_strikeOut 9 = .ok (.iload_n 1, 1) := by decide +kernel
theorem dX2_strikeOut_10 : decode cX2_strikeOut 10 = .ok (.invokevirtual 49, 3) := by decide +kernel
theorem dX2_strikeOut_13 : decode cX2_strikeOut 13 = .ok (.ifCond .eq 5, 3) := by decide +kernel
theorem dX2_strikeOut_16 : decode cX2_strikeOut 16 = .ok (.iconst 0, 1) := by decide +kernel
theorem dX2_strikeOut_17 : decode cX2_strikeOut 17 = .ok (.ireturn, 1) := by decide +kernel
theorem dX2_strikeOut_18 : decode cX2_strikeOut 18 = .ok (.aload_n 0, 1) := by decide +kernel
theorem dX2_strikeOut_19 : decode cX2_strikeOut 19 = .ok (.aload_n 0, 1) := by decide +kernel
theorem dX2_strikeOut_20 : decode cX2_strikeOut 20 = .ok (.iload_n 1, 1) := by decide +kernel
theorem dX2_strikeOut_21 : decode cX2_strikeOut 21 = .ok (.invokevirtual 60, 3) := by decide +kernel
theorem dX2_strikeOut_24 : decode cX2_strikeOut 24 = .ok (.invokevirtual 52, 3) := by decide +kernel
theorem dX2_strikeOut_27 : decode cX2_strikeOut 27 = .ok (.iconst 1, 1) := by decide +kernel
theorem dX2_strikeOut_28 : decode cX2_strikeOut 28 = .ok (.ireturn, 1) := by decide +kernel
set_option maxRecDepth 20000 in
theorem ggX2_groupSize_X2_isAmong : GoodIn wsX2_groupSize wsX2_isAmong := goodIn_r _ [4] (by decide +kernel) (by decide +kernel)
set_option maxRecDepth 20000 in
theorem gX2_groupSize_X2_isAmong : GoodIn wsX2_groupSize (va_wsS RX2 63 yX2_isAmong wsX2_isAmong) := goodIn_app (goodIn_of _ (by decide +kernel)) ggX2_groupSize_X2_isAmong
set_option maxRecDepth 20000 in
theorem ggX2_groupSize_X2_areAlike : GoodIn wsX2_groupSize wsX2_areAlike := goodIn_r _ [8, 1, 2, 3, 4, 9, 10, 11, 12, 13, 14, 15, 16, 17, 18, 19, 20, 21, 22, 23, 24, 25, 26, 27, 28, 29, 30, 31, 32, 33] (by decide +kernel) (by decide +kernel)
set_option maxRecDepth 20000 in
theorem gX2_groupSize_X2_areAlike : GoodIn wsX2_groupSize (wsV RX2 67 RX2 yX2_areAlike wsX2_areAlike) := goodIn_app (goodIn_of _ (by decide +kernel)) ggX2_groupSize_X2_areAlike
theorem dX2_groupSize_0 : decode cX2_groupSize 0 = .ok (.iload_n 1, 1) := by decide +kernel
theorem dX2_groupSize_1 : decode cX2_groupSize 1 = .ok (.iload_n 2, 1) := by decide +kernel
theorem dX2_groupSize_2 : decode cX2_groupSize 2 = .ok (.invokestatic 63, 3) := by decide +kernel
theorem dX2_groupSize_5 : decode cX2_groupSize 5 = .ok (.ifCond .ne 5, 3) := by decide +kernel
theorem dX2_groupSize_8 : decode cX2_groupSize 8 = .ok (.iconst 0, 1) := by decide +kernel
theorem dX2_groupSize_9 : decode cX2_groupSize 9 = .ok (.ireturn, 1) := by decide +kernel
theorem dX2_groupSize_10 : decode cX2_groupSize 10 = .ok (.iconst 0, 1) := by decide +kernel
theorem dX2_groupSize_11 : decode cX2_groupSize 11 = .ok (.istore 4, 2) := by decide +kernel
theorem dX2_groupSize_13 : decode cX2_groupSize 13 = .ok (.iconst 0, 1) := by decide +kernel
theorem dX2_groupSize_14 : decode cX2_groupSize 14 = .ok (.istore 5, 2) := by decide +kernel
theorem dX2_groupSize_16 : decode cX2_groupSize 16 = .ok (.iload 5, 2) := by decide +kernel
theorem dX2_groupSize_18 : decode cX2_groupSize 18 = .ok (.bipush 24, 2) := by decide +kernel
theorem dX2_groupSize_20 : decode cX2_groupSize 20 = .ok (.if_icmp .ge 32, 3) := by decide +kernel
theorem dX2_groupSize_23 : decode cX2_groupSize 23 = .ok (.iload_n 1, 1) := by decide +kernel
theorem dX2_groupSize_24 : decode cX2_groupSize 24 = .ok (.iload 5, 2) := by decide +kernel
theorem dX2_groupSize_26 : decode cX2_groupSize 26 = .ok (.invokestatic 63, 3) := by decide +kernel
theorem dX2_groupSize_29 : decode cX2_groupSize 29 = .ok (.ifCond .eq 17, 3) := by decide +kernel
theorem dX2_groupSize_32 : decode cX2_groupSize 32 = .ok (.aload_n 0, 1) := by decide +kernel
theorem dX2_groupSize_33 : decode cX2_groupSize 33 = .ok (.iload_n 2, 1) := by decide +kernel
theorem dX2_groupSize_34 : decode cX2_groupSize 34 = .ok (.iload 5, 2) := by decide +kernel
theorem dX2_groupSize_36 : decode cX2_groupSize 36 = .ok (.iload_n 3, 1) := by decide +kernel
theorem dX2_groupSize_37 : decode cX2_groupSize 37 = .ok (.invokevirtual 67, 3) := by decide +kernel
theorem dX2_groupSize_40 : decode cX2_groupSize 40 = .ok (.ifCond .eq 6, 3) := by decide +kernel
theorem dX2_groupSize_43 : decode cX2_groupSize 43 = .ok (.iinc 4 1, 3) := by decide +kernel
theorem dX2_groupSize_46 : decode cX2_groupSize 46 = .ok (.iinc 5 1, 3) := by decide +kernel
theorem dX2_groupSize_49 : decode cX2_groupSize 49 = .ok (.goto (-33), 3) := by decide +kernel
theorem dX2_groupSize_52 : decode cX2_groupSize 52 = .ok (.iload 4, 2) := by decide +kernel
theorem dX2_groupSize_54 : decode cX2_groupSize 54 = .ok (.ireturn, 1) := by decide +kernel
set_option maxRecDepth 20000 in
theorem ggX2_countHaving_X2_isAmong : GoodIn wsX2_countHaving wsX2_isAmong := goodIn_r _ [4] (by decide +kernel) (by decide +kernel)
set_option maxRecDepth 20000 in
theorem gX2_countHaving_X2_isAmong : GoodIn wsX2_countHaving (va_wsS RX2 63 yX2_isAmong wsX2_isAmong) := goodIn_app (goodIn_of _ (by decide +kernel)) ggX2_countHaving_X2_isAmong
set_option maxRecDepth 20000 in
theorem ggX2_countHaving_X2_markOf : GoodIn wsX2_countHaving wsX2_markOf := goodIn_r _ [8, 9, 10, 11, 3, 12, 13, 14, 15, 16, 17, 18, 19, 20, 21, 22, 23, 24, 25, 26, 27, 28, 29] (by decide +kernel) (by decide +kernel)
set_option maxRecDepth 20000 in
theorem gX2_countHaving_X2_markOf : GoodIn wsX2_countHaving (wsV RX2 71 RX2 yX2_markOf wsX2_markOf) := goodIn_app (goodIn_of _ (by decide +kernel)) ggX2_countHaving_X2_markOf
theorem dX2_countHaving_0 : decode cX2_countHaving 0 = .ok (.iconst 0, 1) := by decide +kernel
theorem dX2_countHaving_1 : decode cX2_countHaving 1 = .ok (.istore 4, 2) := by decide +kernel
theorem dX2_countHaving_3 : decode cX2_countHaving 3 = .ok (.iconst 0, 1) := by decide +kernel
theorem dX2_countHaving_4 : decode cX2_countHaving 4 = .ok (.istore 5, 2) := by decide +kernel
theorem dX2_countHaving_6 : decode cX2_countHaving 6 = .ok (.iload 5, 2) := by decide +kernel
theorem dX2_countHaving_8 : decode cX2_countHaving 8 = .ok (.bipush 24, 2) := by decide +kernel
theorem dX2_countHaving_10 : decode cX2_countHaving 10 = .ok (.if_icmp .ge 32, 3) := by decide +kernel
theorem dX2_countHaving_13 : decode cX2_countHaving 13 = .ok (.iload_n 1, 1) := by decide +kernel
theorem dX2_countHaving_14 : decode cX2_countHaving 14 = .ok (.iload 5, 2) := by decide +kernel
theorem dX2_countHaving_16 : decode cX2_countHaving 16 = .ok (.invokestatic 63, 3) := by decide +kernel
theorem dX2_countHaving_19 : decode cX2_countHaving 19 = .ok (.ifCond .eq 17, 3) := by decide +kernel
theorem dX2_countHaving_22 : decode cX2_countHaving 22 = .ok (.aload_n 0, 1) := by decide +kernel
theorem dX2_countHaving_23 : decode cX2_countHaving 23 = .ok (.iload 5, 2) := by decide +kernel
theorem dX2_countHaving_25 : decode cX2_countHaving 25 = .ok (.iload_n 2, 1) := by decide +kernel
theorem dX2_countHaving_26 : decode cX2_countHaving 26 = .ok (.invokevirtual 71, 3) := by decide +kernel
theorem dX2_countHaving_29 : decode cX2_countHaving 29 = .ok (.iload_n 3, 1) := by decide +kernel
theorem dX2_countHaving_30 : decode cX2_countHaving 30 = .ok (.if_icmp .ne 6, 3) := by decide +kernel
theorem dX2_countHaving_33 : decode cX2_countHaving 33 = .ok (.iinc 4 1, 3) := by decide +kernel
theorem dX2_countHaving_36 : decode cX2_countHaving 36 = .ok (.iinc 5 1, 3) := by decide +kernel
theorem dX2_countHaving_39 : decode cX2_countHaving 39 = .ok (.goto (-33), 3) := by decide +kernel
theorem dX2_countHaving_42 : decode cX2_countHaving 42 = .ok (.iload 4, 2) := by decide +kernel
theorem dX2_countHaving_44 : decode cX2_countHaving 44 = .ok (.ireturn, 1) := by decide +kernel
set_option maxRecDepth 20000 in
theorem ggX2_isHead_X2_isThere : GoodIn wsX2_isHead wsX2_isThere := goodIn_r _ [5, 6, 7, 8, 9, 10, 11, 12, 27, 28, 29, 30, 31] (by decide +kernel) (by decide +kernel)
set_option maxRecDepth 20000 in
theorem gX2_isHead_X2_isThere : GoodIn wsX2_isHead (wsV RX2 38 RX2 yX2_isThere wsX2_isThere) := goodIn_app (goodIn_of _ (by decide +kernel)) ggX2_isHead_X2_isThere
set_option maxRecDepth 20000 in
theorem ggX2_isHead_X2_holderOf : GoodIn wsX2_isHead wsX2_holderOf := goodIn_r _ [16, 6, 17, 18, 19, 10, 20, 21, 22, 23, 24, 25, 26, 12, 27, 28, 29, 30, 31] (by decide +kernel) (by decide +kernel)
set_option maxRecDepth 20000 in
theorem gX2_isHead_X2_holderOf : GoodIn wsX2_isHead (wsV RX2 56 RX2 yX2_holderOf wsX2_holderOf) := goodIn_app (goodIn_of _ (by decide +kernel)) ggX2_isHead_X2_holderOf
theorem dX2_isHead_0 : decode cX2_isHead 0 = .ok (.aload_n 0, 1) := by decide +kernel
theorem dX2_isHead_1 : decode cX2_isHead 1 = .ok (.iload_n 1, 1) := by decide +kernel
theorem dX2_isHead_2 : decode cX2_isHead 2 = .ok (.invokevirtual 38, 3) := by decide +kernel
theorem dX2_isHead_5 : decode cX2_isHead 5 = .ok (.ifCond .eq 16, 3) := by decide +kernel
theorem dX2_isHead_8 : decode cX2_isHead 8 = .ok (.aload_n 0, 1) := by decide +kernel
theorem dX2_isHead_9 : decode cX2_isHead 9 = .ok (.iload_n 1, 1) := by decide +kernel
theorem dX2_isHead_10 : decode cX2_isHead 10 = .ok (.invokevirtual 56, 3) := by decide +kernel
theorem dX2_isHead_13 : decode cX2_isHead 13 = .ok (.iconst (-1), 1) := by decide +kernel
theorem dX2_isHead_14 : decode cX2_isHead 14 = .ok (.if_icmp .ne 7, 3) := by decide +kernel
theorem dX2_isHead_17 : decode cX2_isHead 17 = .ok (.iconst 1, 1) := by decide +kernel
theorem dX2_isHead_18 : decode cX2_isHead 18 = .ok (.goto 4, 3) := by decide +kernel
theorem dX2_isHead_21 : decode cX2_isHead 21 = .ok (.iconst 0, 1) := by decide +kernel
theorem dX2_isHead_22 : decode cX2_isHead 22 = .ok (.ireturn, 1) := by decide +kernel
set_option maxRecDepth 20000 in
theorem ggX2_strikeOutAllUnder_X2_isThere : GoodIn wsX2_strikeOutAllUnder wsX2_isThere := goodIn_r _ [6, 1, 7, 8, 9, 10, 11, 12, 31, 32, 33, 34, 35] (by decide +kernel) (by decide +kernel)
set_option maxRecDepth 20000 in
theorem gX2_strikeOutAllUnder_X2_isThere : GoodIn wsX2_strikeOutAllUnder (wsV RX2 38 RX2 yX2_isThere wsX2_isThere) := goodIn_app (goodIn_of _ (by decide +kernel)) ggX2_strikeOutAllUnder_X2_isThere
set_option maxRecDepth 20000 in
theorem ggX2_strikeOutAllUnder_X2_headOf : GoodIn wsX2_strikeOutAllUnder wsX2_headOf := goodIn_r _ [16, 1, 17, 18, 19, 10, 20, 21, 22, 23, 24, 25, 26, 12, 31, 32, 33, 34, 35] (by decide +kernel) (by decide +kernel)
set_option maxRecDepth 20000 in
theorem gX2_strikeOutAllUnder_X2_headOf : GoodIn wsX2_strikeOutAllUnder (wsV RX2 60 RX2 yX2_headOf wsX2_headOf) := goodIn_app (goodIn_of _ (by decide +kernel)) ggX2_strikeOutAllUnder_X2_headOf
set_option maxRecDepth 20000 in
theorem ggX2_strikeOutAllUnder_X3_put : GoodIn wsX2_strikeOutAllUnder wsX3_put := goodIn_r _ [30, 21, 22, 23, 24, 25, 10, 26, 12, 32, 33, 34, 35] (by decide +kernel) (by decide +kernel)
set_option maxRecDepth 20000 in
theorem gX2_strikeOutAllUnder_X3_put : GoodIn wsX2_strikeOutAllUnder (wsV RX2 34 RX3 yX3_put wsX3_put) := goodIn_app (goodIn_of _ (by decide +kernel)) ggX2_strikeOutAllUnder_X3_put
theorem dX2_strikeOutAllUnder_0 : decode cX2_strikeOutAllUnder 0 = .ok (.iconst 0, 1) := by decide +kernel
theorem dX2_strikeOutAllUnder_1 : decode cX2_strikeOutAllUnder 1 = .ok (.istore_n 2, 1) := by decide +kernel
theorem dX2_strikeOutAllUnder_2 : decode cX2_strikeOutAllUnder 2 = .ok (.iload_n 2, 1) := by decide +kernel
theorem dX2_strikeOutAllUnder_3 : decode cX2_strikeOutAllUnder 3 = .ok (.bipush 24, 2) := by decide +kernel
theorem dX2_strikeOutAllUnder_5 : decode cX2_strikeOutAllUnder 5 = .ok (.if_icmp .ge 36, 3) := by decide +kernel
theorem dX2_strikeOutAllUnder_8 : decode cX2_strikeOutAllUnder 8 = .ok (.aload_n 0, 1) := by decide +kernel
theorem dX2_strikeOutAllUnder_9 : decode cX2_strikeOutAllUnder 9 = .ok (.iload_n 2, 1) := by decide +kernel
theorem dX2_strikeOutAllUnder_10 : decode cX2_strikeOutAllUnder 10 = .ok (.invokevirtual 38, 3) := by decide +kernel
theorem dX2_strikeOutAllUnder_13 : decode cX2_strikeOutAllUnder 13 = .ok (.ifCond .eq 22, 3) := by decide +kernel
theorem dX2_strikeOutAllUnder_16 : decode cX2_strikeOutAllUnder 16 = .ok (.aload_n 0, 1) := by decide +kernel
theorem dX2_strikeOutAllUnder_17 : decode cX2_strikeOutAllUnder 17 = .ok (.iload_n 2, 1) := by decide +kernel
theorem dX2_strikeOutAllUnder_18 : decode cX2_strikeOutAllUnder 18 = .ok (.invokevirtual 60, 3) := by decide +kernel
theorem dX2_strikeOutAllUnder_21 : decode cX2_strikeOutAllUnder 21 = .ok (.iload_n 1, 1) := by decide +kernel
theorem dX2_strikeOutAllUnder_22 : decode cX2_strikeOutAllUnder 22 = .ok (.if_icmp .ne 13, 3) := by decide +kernel
theorem dX2_strikeOutAllUnder_25 : decode cX2_strikeOutAllUnder 25 = .ok (.aload_n 0, 1) := by decide +kernel
theorem dX2_strikeOutAllUnder_26 : decode cX2_strikeOutAllUnder 26 = .ok (.getfield 16, 3) := by decide +kernel
theorem dX2_strikeOutAllUnder_29 : decode cX2_strikeOutAllUnder 29 = .ok (.iload_n 2, 1) := by decide +kernel
theorem dX2_strikeOutAllUnder_30 : decode cX2_strikeOutAllUnder 30 = .ok (.iconst 5, 1) := by decide +kernel
theorem dX2_strikeOutAllUnder_31 : decode cX2_strikeOutAllUnder 31 = .ok (.iconst 1, 1) := by decide +kernel
theorem dX2_strikeOutAllUnder_32 : decode cX2_strikeOutAllUnder 32 = .ok (.invokevirtual 34, 3) := by decide +kernel
theorem dX2_strikeOutAllUnder_35 : decode cX2_strikeOutAllUnder 35 = .ok (.iinc 2 1, 3) := by decide +kernel
theorem dX2_strikeOutAllUnder_38 : decode cX2_strikeOutAllUnder 38 = .ok (.goto (-36), 3) := by decide +kernel
theorem dX2_strikeOutAllUnder_41 : decode cX2_strikeOutAllUnder 41 = .ok (.return_, 1) := by decide +kernel
set_option maxRecDepth 20000 in
theorem ggX2_areAlike_X2_isAmong : GoodIn wsX2_areAlike wsX2_isAmong := goodIn_r _ [4] (by decide +kernel) (by decide +kernel)
set_option maxRecDepth 20000 in
theorem gX2_areAlike_X2_isAmong : GoodIn wsX2_areAlike (va_wsS RX2 63 yX2_isAmong wsX2_isAmong) := goodIn_app (goodIn_of _ (by decide +kernel)) ggX2_areAlike_X2_isAmong
set_option maxRecDepth 20000 in
theorem ggX2_areAlike_X2_markOf : GoodIn wsX2_areAlike wsX2_markOf := goodIn_r _ [8, 9, 10, 11, 3, 12, 13, 14, 15, 16, 17, 18, 19, 20, 21, 22, 23, 24, 25, 26, 27, 28, 29] (by decide +kernel) (by decide +kernel)
set_option maxRecDepth 20000 in
theorem gX2_areAlike_X2_markOf : GoodIn wsX2_areAlike (wsV RX2 71 RX2 yX2_markOf wsX2_markOf) := goodIn_app (goodIn_of _ (by decide +kernel)) ggX2_areAlike_X2_markOf
theorem dX2_areAlike_0 : decode cX2_areAlike 0 = .ok (.iconst 0, 1) := by decide +kernel
theorem dX2_areAlike_1 : decode cX2_areAlike 1 = .ok (.istore 4, 2) := by decide +kernel
theorem dX2_areAlike_3 : decode cX2_areAlike 3 = .ok (.iload 4, 2) := by decide +kernel
theorem dX2_areAlike_5 : decode cX2_areAlike 5 = .ok (.iconst 4, 1) := by decide +kernel
theorem dX2_areAlike_6 : decode cX2_areAlike 6 = .ok (.if_icmp .ge 37, 3) := by decide +kernel
theorem dX2_areAlike_9 : decode cX2_areAlike 9 = .ok (.iload_n 3, 1) := by decide +kernel
theorem dX2_areAlike_10 : decode cX2_areAlike 10 = .ok (.iload 4, 2) := by decide +kernel
theorem dX2_areAlike_12 : decode cX2_areAlike 12 = .ok (.invokestatic 63, 3) := by decide +kernel
theorem dX2_areAlike_15 : decode cX2_areAlike 15 = .ok (.ifCond .eq 22, 3) := by decide +kernel
theorem dX2_areAlike_18 : decode cX2_areAlike 18 = .ok (.aload_n 0, 1) := by decide +kernel
theorem dX2_areAlike_19 : decode cX2_areAlike 19 = .ok (.iload_n 1, 1) := by decide +kernel
theorem dX2_areAlike_20 : decode cX2_areAlike 20 = .ok (.iload 4, 2) := by decide +kernel
theorem dX2_areAlike_22 : decode cX2_areAlike 22 = .ok (.invokevirtual 71, 3) := by decide +kernel
theorem dX2_areAlike_25 : decode cX2_areAlike 25 = .ok (.aload_n 0, 1) := by decide +kernel
theorem dX2_areAlike_26 : decode cX2_areAlike 26 = .ok (.iload_n 2, 1) := by decide +kernel
theorem dX2_areAlike_27 : decode cX2_areAlike 27 = .ok (.iload 4, 2) := by decide +kernel
theorem dX2_areAlike_29 : decode cX2_areAlike 29 = .ok (.invokevirtual 71, 3) := by decide +kernel
theorem dX2_areAlike_32 : decode cX2_areAlike 32 = .ok (.if_icmp .eq 5, 3) := by decide +kernel
theorem dX2_areAlike_35 : decode cX2_areAlike 35 = .ok (.iconst 0, 1) := by decide +kernel
theorem dX2_areAlike_36 : decode cX2_areAlike 36 = .ok (.ireturn, 1) := by decide +kernel
theorem dX2_areAlike_37 : decode cX2_areAlike 37 = .ok (.iinc 4 1, 3) := by decide +kernel
theorem dX2_areAlike_40 : decode cX2_areAlike 40 = .ok (.goto (-37), 3) := by decide +kernel
theorem dX2_areAlike_43 : decode cX2_areAlike 43 = .ok (.iconst 1, 1) := by decide +kernel
theorem dX2_areAlike_44 : decode cX2_areAlike 44 = .ok (.ireturn, 1) := by decide +kernel
theorem dX2_isAmong_0 : decode cX2_isAmong 0 = .ok (.iload_n 0, 1) := by decide +kernel
theorem dX2_isAmong_1 : decode cX2_isAmong 1 = .ok (.iload_n 1, 1) := by decide +kernel
theorem dX2_isAmong_2 : decode cX2_isAmong 2 = .ok (.ishr, 1) := by decide +kernel
theorem dX2_isAmong_3 : decode cX2_isAmong 3 = .ok (.iconst 1, 1) := by decide +kernel
theorem dX2_isAmong_4 : decode cX2_isAmong 4 = .ok (.iand, 1) := by decide +kernel
theorem dX2_isAmong_5 : decode cX2_isAmong 5 = .ok (.iconst 1, 1) := by decide +kernel
theorem dX2_isAmong_6 : decode cX2_isAmong 6 = .ok (.if_icmp .ne 7, 3) := by decide +kernel
theorem dX2_isAmong_9 : decode cX2_isAmong 9 = .ok (.iconst 1, 1) := by decide +kernel
theorem dX2_isAmong_10 : decode cX2_isAmong 10 = .ok (.goto 4, 3) := by decide +kernel
theorem dX2_isAmong_13 : decode cX2_isAmong 13 = .ok (.iconst 0, 1) := by decide +kernel
theorem dX2_isAmong_14 : decode cX2_isAmong 14 = .ok (.ireturn, 1) := by decide +kernel
theorem dX3_init_0 : decode cX3_init 0 = .ok (.aload_n 0, 1) := by decide +kernel
theorem dX3_init_1 : decode cX3_init 1 = .ok (.invokespecial 3, 3) := by decide +kernel
theorem dX3_init_4 : decode cX3_init 4 = .ok (.aload_n 0, 1) := by decide +kernel
theorem dX3_init_5 : decode cX3_init 5 = .ok (.iconst 0, 1) := by decide +kernel
theorem dX3_init_6 : decode cX3_init 6 = .ok (.iload_n 1, 1) := by decide +kernel
theorem dX3_init_7 : decode cX3_init 7 = .ok (.invokestatic 9, 3) := by decide +kernel
theorem dX3_init_10 : decode cX3_init 10 = .ok (.putfield 15, 3) := by decide +kernel
theorem dX3_init_13 : decode cX3_init 13 = .ok (.aload_n 0, 1) := by decide +kernel
theorem dX3_init_14 : decode cX3_init 14 = .ok (.iconst 0, 1) := by decide +kernel
theorem dX3_init_15 : decode cX3_init 15 = .ok (.iload_n 2, 1) := by decide +kernel
theorem dX3_init_16 : decode cX3_init 16 = .ok (.invokestatic 9, 3) := by decide +kernel
theorem dX3_init_19 : decode cX3_init 19 = .ok (.putfield 21, 3) := by decide +kernel
theorem dX3_init_22 : decode cX3_init 22 = .ok (.aload_n 0, 1) := by decide +kernel
theorem dX3_init_23 : decode cX3_init 23 = .ok (.aload_n 0, 1) := by decide +kernel
theorem dX3_init_24 : decode cX3_init 24 = .ok (.getfield 15, 3) := by decide +kernel
theorem dX3_init_27 : decode cX3_init 27 = .ok (.aload_n 0, 1) := by decide +kernel
theorem dX3_init_28 : decode cX3_init 28 = .ok (.getfield 21, 3) := by decide +kernel
theorem dX3_init_31 : decode cX3_init 31 = .ok (.imul, 1) := by decide +kernel
theorem dX3_init_32 : decode cX3_init 32 = .ok (.newarray .int, 2) := by decide +kernel
theorem dX3_init_34 : decode cX3_init 34 = .ok (.putfield 24, 3) := by decide +kernel
theorem dX3_init_37 : decode cX3_init 37 = .ok (.aload_n 0, 1) := by decide +kernel
theorem dX3_init_38 : decode cX3_init 38 = .ok (.iconst 0, 1) := by decide +kernel
theorem dX3_init_39 : decode cX3_init 39 = .ok (.putfield 28, 3) := by decide +kernel
theorem dX3_init_42 : decode cX3_init 42 = .ok (.return_, 1) := by decide +kernel
theorem dX3_size_0 : decode cX3_size 0 = .ok (.aload_n 0, 1) := by decide +kernel
theorem dX3_size_1 : decode cX3_size 1 = .ok (.getfield 28, 3) := by decide +kernel
theorem dX3_size_4 : decode cX3_size 4 = .ok (.ireturn, 1) := by decide +kernel
theorem dX3_isFull_0 : decode cX3_isFull 0 = .ok (.aload_n 0, 1) := by decide +kernel
theorem dX3_isFull_1 : decode cX3_isFull 1 = .ok (.getfield 28, 3) := by decide +kernel
theorem dX3_isFull_4 : decode cX3_isFull 4 = .ok (.aload_n 0, 1) := by decide +kernel
theorem dX3_isFull_5 : decode cX3_isFull 5 = .ok (.getfield 15, 3) := by decide +kernel
theorem dX3_isFull_8 : decode cX3_isFull 8 = .ok (.if_icmp .lt 7, 3) := by decide +kernel
theorem dX3_isFull_11 : decode cX3_isFull 11 = .ok (.iconst 1, 1) := by decide +kernel
theorem dX3_isFull_12 : decode cX3_isFull 12 = .ok (.goto 4, 3) := by decide +kernel
theorem dX3_isFull_15 : decode cX3_isFull 15 = .ok (.iconst 0, 1) := by decide +kernel
theorem dX3_isFull_16 : decode cX3_isFull 16 = .ok (.ireturn, 1) := by decide +kernel
theorem dX3_isThere_0 : decode cX3_isThere 0 = .ok (.iload_n 1, 1) := by decide +kernel
theorem dX3_isThere_1 : decode cX3_isThere 1 = .ok (.ifCond .lt 15, 3) := by decide +kernel
theorem dX3_isThere_4 : decode cX3_isThere 4 = .ok (.iload_n 1, 1) := by decide +kernel
theorem dX3_isThere_5 : decode cX3_isThere 5 = .ok (.aload_n 0, 1) := by decide +kernel
theorem dX3_isThere_6 : decode cX3_isThere 6 = .ok (.getfield 28, 3) := by decide +kernel
theorem dX3_isThere_9 : decode cX3_isThere 9 = .ok (.if_icmp .ge 7, 3) := by decide +kernel
theorem dX3_isThere_12 : decode cX3_isThere 12 = .ok (.iconst 1, 1) := by decide +kernel
theorem dX3_isThere_13 : decode cX3_isThere 13 = .ok (.goto 4, 3) := by decide +kernel
theorem dX3_isThere_16 : decode cX3_isThere 16 = .ok (.iconst 0, 1) := by decide +kernel
theorem dX3_isThere_17 : decode cX3_isThere 17 = .ok (.ireturn, 1) := by decide +kernel
set_option maxRecDepth 20000 in
theorem ggX3_addRow_X3_isFull : GoodIn wsX3_addRow wsX3_isFull := goodIn_r _ [6, 1, 7, 8, 9, 10, 11] (by decide +kernel) (by decide +kernel)
set_option maxRecDepth 20000 in
theorem gX3_addRow_X3_isFull : GoodIn wsX3_addRow (wsV RX3 31 RX3 yX3_isFull wsX3_isFull) := goodIn_app (goodIn_of _ (by decide +kernel)) ggX3_addRow_X3_isFull
theorem dX3_addRow_0 : decode cX3_addRow 0 = .ok (.aload_n 0, 1) := by decide +kernel
theorem dX3_addRow_1 : decode cX3_addRow 1 = .ok (.invokevirtual 31, 3) := by decide +kernel
theorem dX3_addRow_4 : decode cX3_addRow 4 = .ok (.ifCond .eq 5, 3) := by decide +kernel
theorem dX3_addRow_7 : decode cX3_addRow 7 = .ok (.iconst (-1), 1) := by decide +kernel
theorem dX3_addRow_8 : decode cX3_addRow 8 = .ok (.ireturn, 1) := by decide +kernel
theorem dX3_addRow_9 : decode cX3_addRow 9 = .ok (.aload_n 0, 1) := by decide +kernel
theorem dX3_addRow_10 : decode cX3_addRow 10 = .ok (.dup, 1) := by decide +kernel
theorem dX3_addRow_11 : decode cX3_addRow 11 = .ok (.getfield 28, 3) := by decide +kernel
theorem dX3_addRow_14 : decode cX3_addRow 14 = .ok (.iconst 1, 1) := by decide +kernel
theorem dX3_addRow_15 : decode cX3_addRow 15 = .ok (.iadd, 1) := by decide +kernel
theorem dX3_addRow_16 : decode cX3_addRow 16 = .ok (.putfield 28, 3) := by decide +kernel
theorem dX3_addRow_19 : decode cX3_addRow 19 = .ok (.aload_n 0, 1) := by decide +kernel
theorem dX3_addRow_20 : decode cX3_addRow 20 = .ok (.getfield 28, 3) := by decide +kernel
theorem dX3_addRow_23 : decode cX3_addRow 23 = .ok (.iconst 1, 1) := by decide +kernel
theorem dX3_addRow_24 : decode cX3_addRow 24 = .ok (.isub, 1) := by decide +kernel
theorem dX3_addRow_25 : decode cX3_addRow 25 = .ok (.ireturn, 1) := by decide +kernel
set_option maxRecDepth 20000 in
theorem ggX3_at_X3_hasCell : GoodIn wsX3_at wsX3_hasCell := goodIn_r _ [7, 8, 2, 9, 10, 11, 12] (by decide +kernel) (by decide +kernel)
set_option maxRecDepth 20000 in
theorem gX3_at_X3_hasCell : GoodIn wsX3_at (wsV RX3 35 RX3 yX3_hasCell wsX3_hasCell) := goodIn_app (goodIn_of _ (by decide +kernel)) ggX3_at_X3_hasCell
theorem dX3_at_0 : decode cX3_at 0 = .ok (.aload_n 0, 1) := by decide +kernel
theorem dX3_at_1 : decode cX3_at 1 = .ok (.iload_n 1, 1) := by decide +kernel
theorem dX3_at_2 : decode cX3_at 2 = .ok (.iload_n 2, 1) := by decide +kernel
theorem dX3_at_3 : decode cX3_at 3 = .ok (.invokevirtual 35, 3) := by decide +kernel
theorem dX3_at_6 : decode cX3_at 6 = .ok (.ifCond .eq 19, 3) := by decide +kernel
theorem dX3_at_9 : decode cX3_at 9 = .ok (.aload_n 0, 1) := by decide +kernel
theorem dX3_at_10 : decode cX3_at 10 = .ok (.getfield 24, 3) := by decide +kernel
theorem dX3_at_13 : decode cX3_at 13 = .ok (.iload_n 1, 1) := by decide +kernel
theorem dX3_at_14 : decode cX3_at 14 = .ok (.aload_n 0, 1) := by decide +kernel
theorem dX3_at_15 : decode cX3_at 15 = .ok (.getfield 21, 3) := by decide +kernel
theorem dX3_at_18 : decode cX3_at 18 = .ok (.imul, 1) := by decide +kernel
theorem dX3_at_19 : decode cX3_at 19 = .ok (.iload_n 2, 1) := by decide +kernel
theorem dX3_at_20 : decode cX3_at 20 = .ok (.iadd, 1) := by decide +kernel
theorem dX3_at_21 : decode cX3_at 21 = .ok (.iaload, 1) := by decide +kernel
theorem dX3_at_22 : decode cX3_at 22 = .ok (.goto 4, 3) := by decide +kernel
theorem dX3_at_25 : decode cX3_at 25 = .ok (.iconst (-1), 1) := by decide +kernel
theorem dX3_at_26 : decode cX3_at 26 = .ok (.ireturn, 1) := by decide +kernel
set_option maxRecDepth 20000 in
theorem ggX3_put_X3_hasCell : GoodIn wsX3_put wsX3_hasCell := goodIn_r _ [7, 8, 2, 9, 10, 11, 12] (by decide +kernel) (by decide +kernel)
set_option maxRecDepth 20000 in
theorem gX3_put_X3_hasCell : GoodIn wsX3_put (wsV RX3 35 RX3 yX3_hasCell wsX3_hasCell) := goodIn_app (goodIn_of _ (by decide +kernel)) ggX3_put_X3_hasCell
theorem dX3_put_0 : decode cX3_put 0 = .ok (.aload_n 0, 1) := by decide +kernel
theorem dX3_put_1 : decode cX3_put 1 = .ok (.iload_n 1, 1) := by decide +kernel
theorem dX3_put_2 : decode cX3_put 2 = .ok (.iload_n 2, 1) := by decide +kernel
theorem dX3_put_3 : decode cX3_put 3 = .ok (.invokevirtual 35, 3) := by decide +kernel
theorem dX3_put_6 : decode cX3_put 6 = .ok (.ifCond .eq 17, 3) := by decide +kernel
theorem dX3_put_9 : decode cX3_put 9 = .ok (.aload_n 0, 1) := by decide +kernel
theorem dX3_put_10 : decode cX3_put 10 = .ok (.getfield 24, 3) := by decide +kernel
theorem dX3_put_13 : decode cX3_put 13 = .ok (.iload_n 1, 1) := by decide +kernel
theorem dX3_put_14 : decode cX3_put 14 = .ok (.aload_n 0, 1) := by decide +kernel
theorem dX3_put_15 : decode cX3_put 15 = .ok (.getfield 21, 3) := by decide +kernel
theorem dX3_put_18 : decode cX3_put 18 = .ok (.imul, 1) := by decide +kernel
theorem dX3_put_19 : decode cX3_put 19 = .ok (.iload_n 2, 1) := by decide +kernel
theorem dX3_put_20 : decode cX3_put 20 = .ok (.iadd, 1) := by decide +kernel
theorem dX3_put_21 : decode cX3_put 21 = .ok (.iload_n 3, 1) := by decide +kernel
theorem dX3_put_22 : decode cX3_put 22 = .ok (.iastore, 1) := by decide +kernel
theorem dX3_put_23 : decode cX3_put 23 = .ok (.return_, 1) := by decide +kernel
theorem dX3_hasCell_0 : decode cX3_hasCell 0 = .ok (.iload_n 1, 1) := by decide +kernel
theorem dX3_hasCell_1 : decode cX3_hasCell 1 = .ok (.ifCond .lt 27, 3) := by decide +kernel
theorem dX3_hasCell_4 : decode cX3_hasCell 4 = .ok (.iload_n 1, 1) := by decide +kernel
theorem dX3_hasCell_5 : decode cX3_hasCell 5 = .ok (.aload_n 0, 1) := by decide +kernel
theorem dX3_hasCell_6 : decode cX3_hasCell 6 = .ok (.getfield 28, 3) := by decide +kernel
theorem dX3_hasCell_9 : decode cX3_hasCell 9 = .ok (.if_icmp .ge 19, 3) := by decide +kernel
theorem dX3_hasCell_12 : decode cX3_hasCell 12 = .ok (.iload_n 2, 1) := by decide +kernel
theorem dX3_hasCell_13 : decode cX3_hasCell 13 = .ok (.ifCond .lt 15, 3) := by decide +kernel
theorem dX3_hasCell_16 : decode cX3_hasCell 16 = .ok (.iload_n 2, 1) := by decide +kernel
theorem dX3_hasCell_17 : decode cX3_hasCell 17 = .ok (.aload_n 0, 1) := by decide +kernel
theorem dX3_hasCell_18 : decode cX3_hasCell 18 = .ok (.getfield 21, 3) := by decide +kernel
theorem dX3_hasCell_21 : decode cX3_hasCell 21 = .ok (.if_icmp .ge 7, 3) := by decide +kernel
theorem dX3_hasCell_24 : decode cX3_hasCell 24 = .ok (.iconst 1, 1) := by decide +kernel
theorem dX3_hasCell_25 : decode cX3_hasCell 25 = .ok (.goto 4, 3) := by decide +kernel
theorem dX3_hasCell_28 : decode cX3_hasCell 28 = .ok (.iconst 0, 1) := by decide +kernel
theorem dX3_hasCell_29 : decode cX3_hasCell 29 = .ok (.ireturn, 1) := by decide +kernel
theorem dJ6_bitCount_0f7a4_0 : decode cJ6_bitCount_0f7a4 0 = .ok (.iload_n 0, 1) := by decide +kernel
theorem dJ6_bitCount_0f7a4_1 : decode cJ6_bitCount_0f7a4 1 = .ok (.iload_n 0, 1) := by decide +kernel
theorem dJ6_bitCount_0f7a4_2 : decode cJ6_bitCount_0f7a4 2 = .ok (.iconst 1, 1) := by decide +kernel
theorem dJ6_bitCount_0f7a4_3 : decode cJ6_bitCount_0f7a4 3 = .ok (.iushr, 1) := by decide +kernel
theorem dJ6_bitCount_0f7a4_4 : decode cJ6_bitCount_0f7a4 4 = .ok (.ldc_w 265, 3) := by decide +kernel
theorem dJ6_bitCount_0f7a4_7 : decode cJ6_bitCount_0f7a4 7 = .ok (.iand, 1) := by decide +kernel
theorem dJ6_bitCount_0f7a4_8 : decode cJ6_bitCount_0f7a4 8 = .ok (.isub, 1) := by decide +kernel
theorem dJ6_bitCount_0f7a4_9 : decode cJ6_bitCount_0f7a4 9 = .ok (.istore_n 0, 1) := by decide +kernel
theorem dJ6_bitCount_0f7a4_10 : decode cJ6_bitCount_0f7a4 10 = .ok (.iload_n 0, 1) := by decide +kernel
theorem dJ6_bitCount_0f7a4_11 : decode cJ6_bitCount_0f7a4 11 = .ok (.ldc_w 266, 3) := by decide +kernel
theorem dJ6_bitCount_0f7a4_14 : decode cJ6_bitCount_0f7a4 14 = .ok (.iand, 1) := by decide +kernel
theorem dJ6_bitCount_0f7a4_15 : decode cJ6_bitCount_0f7a4 15 = .ok (.iload_n 0, 1) := by decide +kernel
theorem dJ6_bitCount_0f7a4_16 : decode cJ6_bitCount_0f7a4 16 = .ok (.iconst 2, 1) := by decide +kernel
theorem dJ6_bitCount_0f7a4_17 : decode cJ6_bitCount_0f7a4 17 = .ok (.iushr, 1) := by decide +kernel
theorem dJ6_bitCount_0f7a4_18 : decode cJ6_bitCount_0f7a4 18 = .ok (.ldc_w 266, 3) := by decide +kernel
theorem dJ6_bitCount_0f7a4_21 : decode cJ6_bitCount_0f7a4 21 = .ok (.iand, 1) := by decide +kernel
theorem dJ6_bitCount_0f7a4_22 : decode cJ6_bitCount_0f7a4 22 = .ok (.iadd, 1) := by decide +kernel
theorem dJ6_bitCount_0f7a4_23 : decode cJ6_bitCount_0f7a4 23 = .ok (.istore_n 0, 1) := by decide +kernel
theorem dJ6_bitCount_0f7a4_24 : decode cJ6_bitCount_0f7a4 24 = .ok (.iload_n 0, 1) := by decide +kernel
theorem dJ6_bitCount_0f7a4_25 : decode cJ6_bitCount_0f7a4 25 = .ok (.iload_n 0, 1) := by decide +kernel
theorem dJ6_bitCount_0f7a4_26 : decode cJ6_bitCount_0f7a4 26 = .ok (.iconst 4, 1) := by decide +kernel
theorem dJ6_bitCount_0f7a4_27 : decode cJ6_bitCount_0f7a4 27 = .ok (.iushr, 1) := by decide +kernel
theorem dJ6_bitCount_0f7a4_28 : decode cJ6_bitCount_0f7a4 28 = .ok (.iadd, 1) := by decide +kernel
theorem dJ6_bitCount_0f7a4_29 : decode cJ6_bitCount_0f7a4 29 = .ok (.ldc_w 267, 3) := by decide +kernel
theorem dJ6_bitCount_0f7a4_32 : decode cJ6_bitCount_0f7a4 32 = .ok (.iand, 1) := by decide +kernel
theorem dJ6_bitCount_0f7a4_33 : decode cJ6_bitCount_0f7a4 33 = .ok (.istore_n 0, 1) := by decide +kernel
theorem dJ6_bitCount_0f7a4_34 : decode cJ6_bitCount_0f7a4 34 = .ok (.iload_n 0, 1) := by decide +kernel
theorem dJ6_bitCount_0f7a4_35 : decode cJ6_bitCount_0f7a4 35 = .ok (.iload_n 0, 1) := by decide +kernel
theorem dJ6_bitCount_0f7a4_36 : decode cJ6_bitCount_0f7a4 36 = .ok (.bipush 8, 2) := by decide +kernel
theorem dJ6_bitCount_0f7a4_38 : decode cJ6_bitCount_0f7a4 38 = .ok (.iushr, 1) := by decide +kernel
theorem dJ6_bitCount_0f7a4_39 : decode cJ6_bitCount_0f7a4 39 = .ok (.iadd, 1) := by decide +kernel
theorem dJ6_bitCount_0f7a4_40 : decode cJ6_bitCount_0f7a4 40 = .ok (.istore_n 0, 1) := by decide +kernel
theorem dJ6_bitCount_0f7a4_41 : decode cJ6_bitCount_0f7a4 41 = .ok (.iload_n 0, 1) := by decide +kernel
theorem dJ6_bitCount_0f7a4_42 : decode cJ6_bitCount_0f7a4 42 = .ok (.iload_n 0, 1) := by decide +kernel
theorem dJ6_bitCount_0f7a4_43 : decode cJ6_bitCount_0f7a4 43 = .ok (.bipush 16, 2) := by decide +kernel
theorem dJ6_bitCount_0f7a4_45 : decode cJ6_bitCount_0f7a4 45 = .ok (.iushr, 1) := by decide +kernel
theorem dJ6_bitCount_0f7a4_46 : decode cJ6_bitCount_0f7a4 46 = .ok (.iadd, 1) := by decide +kernel
theorem dJ6_bitCount_0f7a4_47 : decode cJ6_bitCount_0f7a4 47 = .ok (.istore_n 0, 1) := by decide +kernel
theorem dJ6_bitCount_0f7a4_48 : decode cJ6_bitCount_0f7a4 48 = .ok (.iload_n 0, 1) := by decide +kernel
theorem dJ6_bitCount_0f7a4_49 : decode cJ6_bitCount_0f7a4 49 = .ok (.bipush 63, 2) := by decide +kernel
theorem dJ6_bitCount_0f7a4_51 : decode cJ6_bitCount_0f7a4 51 = .ok (.iand, 1) := by decide +kernel
theorem dJ6_bitCount_0f7a4_52 : decode cJ6_bitCount_0f7a4 52 = .ok (.ireturn, 1) := by decide +kernel
theorem dJ9_max_7cf53_0 : decode cJ9_max_7cf53 0 = .ok (.iload_n 0, 1) := by decide +kernel
theorem dJ9_max_7cf53_1 : decode cJ9_max_7cf53 1 = .ok (.iload_n 1, 1) := by decide +kernel
theorem dJ9_max_7cf53_2 : decode cJ9_max_7cf53 2 = .ok (.if_icmp .lt 7, 3) := by decide +kernel
theorem dJ9_max_7cf53_5 : decode cJ9_max_7cf53 5 = .ok (.iload_n 0, 1) := by decide +kernel
theorem dJ9_max_7cf53_6 : decode cJ9_max_7cf53 6 = .ok (.goto 4, 3) := by decide +kernel
theorem dJ9_max_7cf53_9 : decode cJ9_max_7cf53 9 = .ok (.iload_n 1, 1) := by decide +kernel
theorem dJ9_max_7cf53_10 : decode cJ9_max_7cf53 10 = .ok (.ireturn, 1) := by decide +kernel
end
section
/-! own base rows: boolean answers, flat tables, contracts that read, contracts that write without making cells -/
def bI (b : Bool) : Int32 := if b = true then 1 else 0
theorem bI_nar (b : Bool) : narrow .boolean (.int (bI b)) = .int (bI b) := by cases b <;> rfl
theorem bI_0 {b : Bool} : bI b = 0 ↔ b = false := by cases b <;> simp [bI]
def fl (w : Nat) (C : Nat → Nat → Int32) : Nat → Int32 := fun k => C (k % w) (k / w)
def up2 (C : Nat → Nat → Int32) (c r : Nat) (v : Int32) : Nat → Nat → Int32 := fun c' => if c' = c then upd (C c) r v else C c'
def adr (ws : va_W) : Nat → Prop := fun q => q ∈ ws.map Prod.fst
def RdP (D : va_G) (tys : List (ClassId × FieldType)) (av : List Value) (ws : va_W) : Array Value → State → Prop := fun v U => v = av.toArray ∧ va_P D vwCl ws U.heap ∧ va_K D vwCl tys U
def MuP (D : va_G) (tys : List (ClassId × FieldType)) (av : List Value) (ws : va_W) : Array Value → State → Prop := fun v U => v = av.toArray ∧ va_P D vwCl ws U.heap ∧ va_K D vwCl tys U ∧ va_D (fun _ => True) ws
def QM (D : va_G) (o : Option Value) (ws ws' : va_W) : Array Value → State → Outcome → State → Prop := fun _ st oc t => oc = .returned o ∧ va_P D vwCl ws' t.heap ∧ va_F (adr ws) st t
theorem RdP.blind {D : va_G} {tys : List (ClassId × FieldType)} {av : List Value} {ws : va_W} : FrameBlind (RdP D tys av ws) := fun a U g mk q => ⟨q.1, q.2.1, va_K.moved (u := U) (U := U.calling g mk a) (Vm.Alike.refl U.vm) q.2.2⟩
theorem MuP.blind {D : va_G} {tys : List (ClassId × FieldType)} {av : List Value} {ws : va_W} : FrameBlind (MuP D tys av ws) := fun a U g mk q => ⟨q.1, q.2.1, va_K.moved (u := U) (U := U.calling g mk a) (Vm.Alike.refl U.vm) q.2.2.1, q.2.2.2⟩
def repl : va_W → List Nat → va_W → va_W
  | ws, i :: is, q :: w1 => repl (ws.set i q) is w1
  | ws, _, _ => ws
theorem repl_get : ∀ (is : List Nat) (w1 ws : va_W) (k : Nat) (q : Nat × va_E), is.length = w1.length → (repl ws is w1)[k]? = some q → q ∈ w1 ∨ (k ∉ is ∧ ws[k]? = some q)
  | [], [], ws, k, q, _, h => Or.inr ⟨List.not_mem_nil, h⟩
  | [], q0 :: w1, ws, k, q, hl, h => by simp at hl
  | i :: is, [], ws, k, q, hl, h => by simp at hl
  | i :: is, q0 :: w1, ws, k, q, hl, h => by
    rcases repl_get is w1 (ws.set i q0) k q (by simpa using hl) h with h1 | ⟨h1, h2⟩
    · exact Or.inl (List.mem_cons_of_mem _ h1)
    · by_cases hk : i = k
      · subst hk
        left
        have h3 : i < ws.length := by
          have := (List.getElem?_eq_some_iff.mp h2).1
          simpa using this
        rw [List.getElem?_set_self h3] at h2
        cases h2
        exact List.mem_cons_self
      · rw [List.getElem?_set_ne hk] at h2
        exact Or.inr ⟨fun h4 => (List.mem_cons.mp h4).elim (fun e => hk e.symm) h1, h2⟩
theorem va_D.fst {A : Nat → Prop} {ws ws' : va_W} (h : va_D A ws) (e : ws'.map Prod.fst = ws.map Prod.fst) : va_D A ws' := by
  have key : ∀ (k : Nat) (q : Nat × va_E), ws'[k]? = some q → ∃ q', ws[k]? = some q' ∧ q'.1 = q.1 := by
    intro k q hq
    have h1 : (ws'.map Prod.fst)[k]? = some q.1 := by rw [List.getElem?_map, hq]; rfl
    rw [e, List.getElem?_map] at h1
    cases h2 : ws[k]? with
    | none => rw [h2] at h1; cases h1
    | some q' => rw [h2] at h1; exact ⟨q', rfl, Option.some.inj h1⟩
  refine ⟨fun i j p q hi hj hpq => ?_, fun k q hk => ?_⟩
  · obtain ⟨p', hp', ep⟩ := key i p hi
    obtain ⟨q', hq', eq⟩ := key j q hj
    exact h.1 i j p' q' hp' hq' (by rw [ep, eq, hpq])
  · obtain ⟨q', hq', eq⟩ := key k q hk
    rw [← eq]
    exact h.2 k q' hq'
/-- behind a call that made nothing: the callee's cells are new, the others as they were -/
theorem repl_P {A : Nat → Prop} {D : va_G} {ws wc wc' wn : va_W} {H H1 : Heap} {is : List Nat} (hP : va_P D vwCl ws H) (hD : va_D A ws) (hs : is.map (fun i => ws[i]?) = wc.map some) (ha : wc'.map Prod.fst = wc.map Prod.fst) (hr : repl ws is wc' = wn) (hP1 : va_P D vwCl wc' H1) (hF : ∀ q : Nat, q < H.size → ¬ adr wc q → H1[q]? = H[q]?) : va_P D vwCl wn H1 := by
  subst hr
  have hl : is.length = wc'.length := by
    have h1 := congrArg List.length hs
    have h2 := congrArg List.length ha
    simp only [List.length_map] at h1 h2
    omega
  intro k q hk
  rcases repl_get is wc' ws k q hl hk with h | ⟨h1, h2⟩
  · obtain ⟨j, hj⟩ := List.getElem?_of_mem h
    exact hP1 j q hj
  · refine (hP k q h2).kept (hF q.1 (hP k q h2).lt ?_)
    intro h3
    obtain ⟨q', hq', e⟩ := List.mem_map.mp (show q.1 ∈ wc.map Prod.fst from h3)
    obtain ⟨j, hj⟩ := List.getElem?_of_mem hq'
    have h4 : (is.map (fun i => ws[i]?))[j]? = some (some q') := by rw [hs, List.getElem?_map, hj]; rfl
    rw [List.getElem?_map] at h4
    cases h5 : is[j]? with
    | none => rw [h5] at h4; cases h4
    | some i =>
      rw [h5] at h4
      have h6 : ws[i]? = some q' := Option.some.inj h4
      have h7 := hD.1 k i q q' h2 h6 e.symm
      subst h7
      exact h1 (List.mem_of_getElem? h5)
theorem adr_sub {A : Nat → Prop} {ws wc : va_W} {is : List Nat} (hD : va_D A ws) (hs : is.map (fun i => ws[i]?) = wc.map some) : ∀ q, adr wc q → A q := by
  intro q h3
  obtain ⟨q', hq', e⟩ := List.mem_map.mp (show q ∈ wc.map Prod.fst from h3)
  obtain ⟨j, hj⟩ := List.getElem?_of_mem hq'
  have h4 : (is.map (fun i => ws[i]?))[j]? = some (some q') := by rw [hs, List.getElem?_map, hj]; rfl
  rw [List.getElem?_map] at h4
  cases h5 : is[j]? with
  | none => rw [h5] at h4; cases h4
  | some i =>
    rw [h5] at h4
    have h6 : ws[i]? = some q' := Option.some.inj h4
    rw [← e]
    exact hD.2 i q' h6
theorem adr_D {A : Nat → Prop} {ws : va_W} (hD : va_D A ws) : va_D (adr ws) ws := ⟨hD.1, fun k q hk => List.mem_map.mpr ⟨q, List.mem_of_getElem? hk, rfl⟩⟩
theorem subP {D : va_G} {ws wc : va_W} {H : Heap} {is : List Nat} (hP : va_P D vwCl ws H) (hs : is.map (fun i => ws[i]?) = wc.map some) : va_P D vwCl wc H := by
  intro k q hk
  have h4 : (is.map (fun i => ws[i]?))[k]? = some (some q) := by rw [hs, List.getElem?_map, hk]; rfl
  rw [List.getElem?_map] at h4
  cases h5 : is[k]? with
  | none => rw [h5] at h4; cases h4
  | some i =>
    rw [h5] at h4
    exact hP i q (Option.some.inj h4)
section BASE
variable {p : Program} {l : Launch} {e : Env} {R : Room} {s : State} {m : MethodId} {args : Array Value} {below : List Frame} {meth : Method} {c : Code} {H H0 : Heap} {locs : List Loc} {cells slots : Nat} {Q : State → Prop}
variable {cc : ByteArray} {pc : Nat} {ls : Array Slot} {rest st0 : List Value} {D : va_G} {tys : List (ClassId × FieldType)} {A : Nat → Prop}
theorem lb_eq (hx : p.tables.exec = Jvm.exec) (hb : c.code = cc) {b : Bool} {off : Int} {tgt : Nat} (hdg : decode cc pc = .ok (.ifCond .eq off, 3)) (ht : (pc : Int) + off = (tgt : Int))
    (kt : b = false → W p l e R s m args below meth c H locs cells slots Q (F0 m tgt ls rest)) (kf : b = true → W p l e R s m args below meth c H locs cells slots Q (F0 m (pc + 3) ls rest)) : W p l e R s m args below meth c H locs cells slots Q (F0 m pc ls (.int (bI b) :: rest)) :=
  lv_if_eq hx hb hdg ht (fun h => kt (bI_0.mp h)) (fun h => kf (by cases b with | false => exact absurd rfl h | true => rfl))
theorem lb_ne (hx : p.tables.exec = Jvm.exec) (hb : c.code = cc) {b : Bool} {off : Int} {tgt : Nat} (hdg : decode cc pc = .ok (.ifCond .ne off, 3)) (ht : (pc : Int) + off = (tgt : Int))
    (kt : b = true → W p l e R s m args below meth c H locs cells slots Q (F0 m tgt ls rest)) (kf : b = false → W p l e R s m args below meth c H locs cells slots Q (F0 m (pc + 3) ls rest)) : W p l e R s m args below meth c H locs cells slots Q (F0 m pc ls (.int (bI b) :: rest)) :=
  lv_if_ne hx hb hdg ht (fun h => kt (by cases b with | false => exact absurd rfl h | true => rfl)) (fun h => kf (by cases b with | false => rfl | true => exact absurd h (by decide)))
theorem rd_iret {r v : Int32} (hx : p.tables.exec = Jvm.exec) (hb : c.code = cc) (hr : meth.sig.returnType = some .int) (hlocks : meth.locks = false) (hdg : decode cc pc = .ok (.ireturn, 1)) (hv : v = r) : W p l e R s m args below meth c s.heap [] 0 0 (MQ below (QcRead r) args s 0 0 (fun _ => False)) (F0 m pc ls [.int v]) :=
  W.iret hx hb hr (fun t ht hW => ⟨by rw [hv], ht⟩) (fun q h => by cases h) hdg hlocks
theorem rd_zret {b : Bool} {v : Int32} (hx : p.tables.exec = Jvm.exec) (hb : c.code = cc) (hr : meth.sig.returnType = some .boolean) (hlocks : meth.locks = false) (hdg : decode cc pc = .ok (.ireturn, 1)) (hv : v = bI b) : W p l e R s m args below meth c s.heap [] 0 0 (MQ below (QcRead (bI b)) args s 0 0 (fun _ => False)) (F0 m pc ls [.int v]) :=
  W.zret hx hb hr (by rw [hv]; exact bI_nar b) (fun t ht hW => ⟨by rw [hv], ht⟩) (fun q h => by cases h) hdg hlocks
theorem mu_iret {r v : Int32} {ws ws' : va_W} (hx : p.tables.exec = Jvm.exec) (hb : c.code = cc) (hr : meth.sig.returnType = some .int) (hlocks : meth.locks = false) (hS : va_S (adr ws) s.heap H locs) (hdg : decode cc pc = .ok (.ireturn, 1)) (hv : v = r) (hP : va_P D vwCl ws' H) : W p l e R s m args below meth c H locs 0 0 (MQ below (QM D (some (.int r)) ws ws') args s 0 0 (adr ws)) (F0 m pc ls [.int v]) :=
  W.iret hx hb hr (fun t ht hW => ⟨by rw [hv], by rw [ht]; exact hP, hS.F ht⟩) hS.2.2 hdg hlocks
theorem mu_zret {b : Bool} {v : Int32} {ws ws' : va_W} (hx : p.tables.exec = Jvm.exec) (hb : c.code = cc) (hr : meth.sig.returnType = some .boolean) (hlocks : meth.locks = false) (hS : va_S (adr ws) s.heap H locs) (hdg : decode cc pc = .ok (.ireturn, 1)) (hv : v = bI b) (hP : va_P D vwCl ws' H) : W p l e R s m args below meth c H locs 0 0 (MQ below (QM D (some (.int (bI b))) ws ws') args s 0 0 (adr ws)) (F0 m pc ls [.int v]) :=
  W.zret hx hb hr (by rw [hv]; exact bI_nar b) (fun t ht hW => ⟨by rw [hv], by rw [ht]; exact hP, hS.F ht⟩) hS.2.2 hdg hlocks
theorem mu_vret {ws ws' : va_W} (hx : p.tables.exec = Jvm.exec) (hb : c.code = cc) (hr : meth.sig.returnType = none) (hlocks : meth.locks = false) (hS : va_S (adr ws) s.heap H locs) (hdg : decode cc pc = .ok (.return_, 1)) (hP : va_P D vwCl ws' H) : W p l e R s m args below meth c H locs 0 0 (MQ below (QM D none ws ws') args s 0 0 (adr ws)) (F0 m pc ls []) :=
  W.vret hx hb hr (fun t ht hW => ⟨rfl, by rw [ht]; exact hP, hS.F ht⟩) hS.2.2 hdg hlocks
/-- a call that reads: of an object (the callee's world's first cell) -/
theorem rcV {y : MethodName} {bytes : ByteArray} {maxL nL n index ci : Nat} {ret : Option FieldType} {ws Ts : List Cond} {rm : Room} {own C : String} {b : Addr} {As : List Value} {wS wc : va_W} {r : Int32} {fs : List Value} {q : vw_C}
    (S : CallFix p m c cc nL s args Ts own) (hM : Met l y ws rm (RdP D tys (.ref b :: As) wc) (QcRead r) 0 0 (fun _ => False)) (cw : CallW R s args own C index y bytes maxL ret ws rm 0 0 n) (hK : va_K D vwCl tys s) (hP : va_P D vwCl wS H) (is : List Nat) (hs : is.map (fun i => wS[i]?) = wc.map some)
    (hc : vwCl[ci]? = some q) (hC : q.1 = C) (he : wc[0]? = some (b, .inr (ci, fs))) (hn : As.length = n) (hsz : ls.size = nL) (hst : st0 = As.reverse ++ .ref b :: rest) (hW : (rest.map fun v => v.category).sum ≤ 8) (hf : cells ≤ R.cells ∧ slots ≤ R.slots) (hdg : decode cc pc = .ok (.invokevirtual index, 3))
    (kk : W p l e R s m args below meth c H locs cells slots Q (F0 m (pc + 3) ls (.int r :: rest))) : W p l e R s m args below meth c H locs cells slots Q (F0 m pc ls st0) := by
  have hP1 := subP hP hs
  subst hC
  exact W.callR (W.runV S hM cw ⟨RdP.blind, va_recv hK hP1 hc he, fun U hU hWU => ⟨rfl, by rw [hU]; exact hP1, va_K.moved hWU.alike hK⟩⟩ rfl hn hsz hst (lv_room hW) hdg hf) kk
theorem rcS {y : MethodName} {bytes : ByteArray} {maxL nL n index : Nat} {ret : Option FieldType} {ws Ts : List Cond} {rm : Room} {own : String} {As : List Value} {wS wc : va_W} {r : Int32}
    (S : CallFix p m c cc nL s args Ts own) (hM : Met l y ws rm (RdP D tys As wc) (QcRead r) 0 0 (fun _ => False)) (cw : CallB R s args own index y bytes maxL ret ws rm 0 0 n ∧ (Cond.static y).before args s = true) (hK : va_K D vwCl tys s) (hP : va_P D vwCl wS H) (is : List Nat) (hs : is.map (fun i => wS[i]?) = wc.map some)
    (hn : As.length = n) (hsz : ls.size = nL) (hst : st0 = As.reverse ++ rest) (hW : (rest.map fun v => v.category).sum ≤ 8) (hf : cells ≤ R.cells ∧ slots ≤ R.slots) (hdg : decode cc pc = .ok (.invokestatic index, 3))
    (kk : W p l e R s m args below meth c H locs cells slots Q (F0 m (pc + 3) ls (.int r :: rest))) : W p l e R s m args below meth c H locs cells slots Q (F0 m pc ls st0) := by
  have hP1 := subP hP hs
  exact W.callR (W.runS S hM cw ⟨RdP.blind, fun U hU hWU => ⟨rfl, by rw [hU]; exact hP1, va_K.moved hWU.alike hK⟩⟩ rfl hn hsz hst (lv_room hW) hdg hf) kk
/-- a call that writes: the callee's cells are new behind it, the others as they were -/
theorem mcV {y : MethodName} {bytes : ByteArray} {maxL nL n index ci : Nat} {ret : Option FieldType} {ws Ts : List Cond} {rm : Room} {own C : String} {b : Addr} {As : List Value} {wS wc wc' wn : va_W} {o : Option Value} {fs : List Value} {q : vw_C}
    (S : CallFix p m c cc nL s args Ts own) (hM : Met l y ws rm (MuP D tys (.ref b :: As) wc) (QM D o wc wc') 0 0 (adr wc)) (cw : CallW R s args own C index y bytes maxL ret ws rm 0 0 n) (hK : va_K D vwCl tys s) (hP : va_P D vwCl wS H) (hD : va_D A wS) (hS : va_S A H0 H locs) (is : List Nat) (hnd : va_nd is = true) (hs : is.map (fun i => wS[i]?) = wc.map some) (ha : wc'.map Prod.fst = wc.map Prod.fst) (hr : repl wS is wc' = wn) (hfa : wn.map Prod.fst = wS.map Prod.fst)
    (hc : vwCl[ci]? = some q) (hC : q.1 = C) (he : wc[0]? = some (b, .inr (ci, fs))) (hn : As.length = n) (hsz : ls.size = nL) (hst : st0 = As.reverse ++ .ref b :: rest) (hW : (rest.map fun v => v.category).sum ≤ 8) (hf : cells ≤ R.cells ∧ slots ≤ R.slots) (hdg : decode cc pc = .ok (.invokevirtual index, 3))
    (kk : ∀ (H1 : Heap) (locs1 : List Loc), va_P D vwCl wn H1 → va_D A wn → va_S A H0 H1 locs1 → W p l e R s m args below meth c H1 locs1 cells slots Q (F0 m (pc + 3) ls (o.toList ++ rest))) : W p l e R s m args below meth c H locs cells slots Q (F0 m pc ls st0) := by
  have hP1 := subP hP hs
  have hDc : va_D (fun _ => True) wc := (hD.sub is hnd hs).weaken (fun _ _ _ _ => trivial)
  subst hC
  intro T hT X
  obtain ⟨v, st₀, t, T', L, h0, X', hL, e1, ⟨hv, hq, hF⟩, st⟩ := W.runV S hM cw ⟨MuP.blind, va_recv hK hP1 hc he, fun U hU hWU => ⟨rfl, by rw [hU]; exact hP1, va_K.moved hWU.alike hK, hDc⟩⟩ rfl hn hsz hst (lv_room hW) hdg hf T hT X
  cases hv
  have hF2 : ∀ q : Nat, q < H.size → ¬ adr wc q → T'.heap[q]? = H[q]? := fun q h1 h2 => by rw [e1, hF.2 q (by rw [h0]; exact h1) h2, h0]
  have hz : H.size ≤ T'.heap.size := by rw [e1]; have := hF.1; rw [h0] at this; exact this
  have hsub := adr_sub hD hs
  obtain ⟨t2, a1, b1⟩ := kk T'.heap (locs ++ L) (repl_P hP hD hs ha hr (by rw [e1]; exact hq) hF2) (hD.fst hfa)
    ⟨Nat.le_trans hS.1 hz, fun q h1 h2 => by rw [hF2 q (Nat.lt_of_lt_of_le h1 hS.1) (fun z => h2 (hsub q z))]; exact hS.2.1 q h1 h2, fun q hq => by
      rcases List.mem_append.mp hq with h | h
      · exact hS.2.2 q h
      · exact hsub _ (hL q h)⟩ T' rfl X'
  exact ⟨t2, st t2 a1, b1⟩
end BASE
/-- a method that reads -/
theorem rd_of {l : Launch} {y : MethodName} {ws ws' : List Cond} {rm : Room} {cc : ByteArray} {maxL : Nat} {ret : Option FieldType} {D : va_G} {tys : List (ClassId × FieldType)} {av : List Value} {wc : va_W} {r : Int32} (hy : plainName y.cls = true) (hw : ws = Cond.code y cc maxL ret :: ws') (hlen : (lg_sl av).length ≤ maxL)
    (body : ∀ (p : Program) (e : Env) (s : State) (m : MethodId) (below : List Frame) (meth : Method) (c : Code) (ls : Array Slot), p.tables.exec = Jvm.exec → c.code = cc → meth.sig.returnType = ret → (∀ w ∈ ws, w.before av.toArray s = true) → s.vm.findClass y.cls = some m.cls → meth.locks = false → c.maxLocals = maxL → va_P D vwCl wc s.heap → va_K D vwCl tys s → lv_has ls maxL (lv_args 0 av) →
      W p l e rm s m av.toArray below meth c s.heap [] 0 0 (MQ below (QcRead r) av.toArray s 0 0 (fun _ => False)) (F0 m 0 ls [])) : Met l y ws rm (RdP D tys av wc) (QcRead r) 0 0 (fun _ => False) := by
  refine Met.ofW (cc := cc) (maxL := maxL) (ret := ret) hy hw ?_
  intro p e s m args below meth c s₁ B hml hv
  obtain ⟨rfl, hP, hK⟩ := hv
  rw [lg_entry_eq]
  exact body p e s m below meth c _ B.exec B.bytes B.returns (atoms_spec (ws := ws) B.pre) (findClass_of_methodNamed B.named) B.notSynchronized hml hP hK (lv_entry av hlen)
/-- a method that writes -/
theorem mu_of {l : Launch} {y : MethodName} {ws ws' : List Cond} {rm : Room} {cc : ByteArray} {maxL : Nat} {ret : Option FieldType} {D : va_G} {tys : List (ClassId × FieldType)} {av : List Value} {wc wc' : va_W} {o : Option Value} (hy : plainName y.cls = true) (hw : ws = Cond.code y cc maxL ret :: ws') (hlen : (lg_sl av).length ≤ maxL)
    (body : ∀ (p : Program) (e : Env) (s : State) (m : MethodId) (below : List Frame) (meth : Method) (c : Code) (ls : Array Slot), p.tables.exec = Jvm.exec → c.code = cc → meth.sig.returnType = ret → (∀ w ∈ ws, w.before av.toArray s = true) → s.vm.findClass y.cls = some m.cls → meth.locks = false → c.maxLocals = maxL → va_K D vwCl tys s → lv_has ls maxL (lv_args 0 av) →
      ∀ (H : Heap) (locs : List Loc), va_P D vwCl wc H → va_D (adr wc) wc → va_S (adr wc) s.heap H locs → W p l e rm s m av.toArray below meth c H locs 0 0 (MQ below (QM D o wc wc') av.toArray s 0 0 (adr wc)) (F0 m 0 ls [])) : Met l y ws rm (MuP D tys av wc) (QM D o wc wc') 0 0 (adr wc) := by
  refine Met.ofW (cc := cc) (maxL := maxL) (ret := ret) hy hw ?_
  intro p e s m args below meth c s₁ B hml hv
  obtain ⟨rfl, hP, hK, hD⟩ := hv
  rw [lg_entry_eq]
  exact body p e s m below meth c _ B.exec B.bytes B.returns (atoms_spec (ws := ws) B.pre) (findClass_of_methodNamed B.named) B.notSynchronized hml hK (lv_entry av hlen) s.heap [] hP (adr_D hD) va_S.rf
end
section
/-! plain rows: numbers, the tables' own functions -/
theorem fa_lt (a b : Int32) : a < b ↔ a.toInt < b.toInt := Int32.lt_iff_toInt_lt
theorem fa_le (a b : Int32) : a ≤ b ↔ a.toInt ≤ b.toInt := Int32.le_iff_toInt_le
theorem fa_eq (a b : Int32) : a = b ↔ a.toInt = b.toInt := ⟨fun h => h ▸ rfl, fun h => Int32.toInt_inj.mp h⟩
/-- an index of n rows -/
def inR (n : Nat) (r : Int32) : Bool := !decide (r < 0) && !decide (nI n ≤ r)
theorem inR_ex {n : Nat} {r : Int32} (h : inR n r = true) (hn : n < 2 ^ 31) : ∃ j : Nat, j < n ∧ r = nI j := by
  simp only [inR, Bool.and_eq_true, Bool.not_eq_true', decide_eq_false_iff_not] at h
  rcases pk_ix r hn with q | q | q
  · exact absurd q h.1
  · exact absurd q h.2
  · exact q
theorem inR_nI {n j : Nat} (hn : n < 2 ^ 31) (hj : j < 2 ^ 31) : inR n (nI j) = decide (j < n) := by
  have h1 : ¬ nI j < 0 := nI_pos hj
  by_cases h : j < n
  · have h2 : ¬ nI n ≤ nI j := nI_ge h hn
    simp [inR, h1, h2, h]
  · have h2 : nI n ≤ nI j := nI_le (by omega) hj
    simp [inR, h2, h]
theorem inR_lt {n j : Nat} (h : j < n) (hn : n < 2 ^ 31) : inR n (nI j) = true := by
  rw [inR_nI hn (by omega)]; simp [h]
theorem inR_no {n : Nat} {r : Int32} (h : r < 0) : inR n r = false := by simp [inR, h]
theorem inR_m1 (n : Nat) : inR n (-1) = false := inR_no (by decide)
/-- a table's cell; none outside -/
def tat (n w : Nat) (C : Nat → Nat → Int32) (r c : Int32) : Int32 := if (inR n r && inR w c) = true then C c.toNatClampNeg r.toNatClampNeg else -1
/-- a table with a cell written; nothing outside -/
def tput (n w : Nat) (C : Nat → Nat → Int32) (r c v : Int32) : Nat → Nat → Int32 := if (inR n r && inR w c) = true then up2 C c.toNatClampNeg r.toNatClampNeg v else C
def adn (mo n : Nat) : Nat := if mo ≤ n then n else n + 1
def arow (mo n : Nat) : Int32 := if mo ≤ n then -1 else nI n
theorem tat_nI {n w : Nat} {C : Nat → Nat → Int32} {r c : Nat} (hn : n < 2 ^ 31) (hw : w < 2 ^ 31) (hr : r < n) (hc : c < w) : tat n w C (nI r) (nI c) = C c r := by
  unfold tat
  rw [inR_lt hr hn, inR_lt hc hw, nI_clamp (by omega), nI_clamp (by omega)]
  rfl
theorem tat_no {n w : Nat} {C : Nat → Nat → Int32} {r c : Int32} (h : inR n r = false) : tat n w C r c = -1 := by simp [tat, h]
theorem tput_nI {n w : Nat} {C : Nat → Nat → Int32} {r c : Nat} {v : Int32} (hn : n < 2 ^ 31) (hw : w < 2 ^ 31) (hr : r < n) (hc : c < w) : tput n w C (nI r) (nI c) v = up2 C c r v := by
  unfold tput
  rw [inR_lt hr hn, inR_lt hc hw, nI_clamp (by omega), nI_clamp (by omega)]
  rfl
theorem tput_no {n w : Nat} {C : Nat → Nat → Int32} {r c v : Int32} (h : inR n r = false) : tput n w C r c v = C := by simp [tput, h]
theorem fl_at {w : Nat} {C : Nat → Nat → Int32} {r c : Nat} (hc : c < w) : fl w C (r * w + c) = C c r := by
  unfold fl
  have h1 : (r * w + c) % w = c := by rw [Nat.mul_comm, Nat.mul_add_mod]; exact Nat.mod_eq_of_lt hc
  have h2 : (r * w + c) / w = r := by
    rw [Nat.mul_comm, Nat.mul_add_div (by omega), Nat.div_eq_of_lt hc]; omega
  rw [h1, h2]
theorem fl_up {w : Nat} {C : Nat → Nat → Int32} {r c : Nat} {v : Int32} (hc : c < w) : fl w (up2 C c r v) = upd (fl w C) (r * w + c) v := by
  funext k
  unfold fl up2 upd
  by_cases h : k = r * w + c
  · subst h
    have h1 : (r * w + c) % w = c := by rw [Nat.mul_comm, Nat.mul_add_mod]; exact Nat.mod_eq_of_lt hc
    have h2 : (r * w + c) / w = r := by
      rw [Nat.mul_comm, Nat.mul_add_div (by omega), Nat.div_eq_of_lt hc]; omega
    simp [h1, h2]
  · rw [if_neg h]
    by_cases h1 : k % w = c
    · rw [if_pos h1]
      have h2 : ¬ k / w = r := by
        intro h2
        apply h
        have := Nat.div_add_mod k w
        rw [h2, h1, Nat.mul_comm] at this
        exact this.symm
      rw [if_neg h2]
      show _ = C (k % w) (k / w)
      rw [h1]
    · rw [if_neg h1]
theorem fl_up_out {w : Nat} {C : Nat → Nat → Int32} {r c : Nat} {v : Int32} (h0 : 0 < w) (hc : w ≤ c) : fl w (up2 C c r v) = fl w C := by
  funext k
  unfold fl up2
  rw [if_neg (by have := Nat.mod_lt k h0; omega)]
/-- the place of a cell in a flat table -/
theorem cell_ix {n w : Nat} {r c : Int32} (h : (inR n r && inR w c) = true) (hn : n < 2 ^ 31) (hw : w < 2 ^ 31) : r * nI w + c = nI (r.toNatClampNeg * w + c.toNatClampNeg) ∧ r.toNatClampNeg < n ∧ c.toNatClampNeg < w := by
  rw [Bool.and_eq_true] at h
  obtain ⟨i, hi, rfl⟩ := inR_ex h.1 hn
  obtain ⟨j, hj, rfl⟩ := inR_ex h.2 hw
  rw [nI_clamp (by omega), nI_clamp (by omega), pk_mul, nI_add]
  exact ⟨rfl, hi, hj⟩
theorem cell_lt {n mo w i j : Nat} (hn : n ≤ mo) (hi : i < n) (hj : j < w) : i * w + j < mo * w := by
  have h1 : (i + 1) * w ≤ mo * w := Nat.mul_le_mul_right w (by omega)
  rw [Nat.succ_mul] at h1
  omega
section ALN
variable {p : Program} {l : Launch} {e : Env} {R : Room} {s : State} {m : MethodId} {args : Array Value} {below : List Frame} {meth : Method} {c : Code} {H H0 : Heap} {locs : List Loc} {cells slots : Nat} {Q : State → Prop}
variable {cc : ByteArray} {pc : Nat} {ls : Array Slot} {rest : List Value} {D : va_G} {cl : List vw_C} {ws : va_W} {tys : List (ClassId × FieldType)} {A : Nat → Prop} {a : Nat}
theorem va_ialdN (hexec : p.tables.exec = Jvm.exec) (hb : c.code = cc) (hK : va_K D cl tys s) (hP : va_P D cl ws H) (q0 t0 : Nat) {cA : ClassId} {n : Nat} {f : Nat → Int32} (ha : ws[q0]? = some (a, .inl (cA, n, .inl f))) (ht : tys[t0]? = some (cA, .int)) {i : Int32} (j : Nat) (hj : i = nI j) (hlt : j < n) (hn : n < 2 ^ 31) (hdg : decode cc pc = .ok (.iaload, 1))
    (kk : W p l e R s m args below meth c H locs cells slots Q (F0 m (pc + 1) ls (.int (f j) :: rest))) : W p l e R s m args below meth c H locs cells slots Q (F0 m pc ls (.int i :: .ref a :: rest)) := by
  subst hj
  refine va_iald hexec hb hK hP q0 t0 ha ht (vp_in_nI hlt hn) hdg ?_
  rw [nI_clamp (by omega)]
  exact kk
theorem va_zaldN (hexec : p.tables.exec = Jvm.exec) (hb : c.code = cc) (hK : va_K D cl tys s) (hP : va_P D cl ws H) (q0 t0 : Nat) {cA : ClassId} {n : Nat} {f : Nat → Int32} (ha : ws[q0]? = some (a, .inl (cA, n, .inl f))) (ht : tys[t0]? = some (cA, .boolean)) {i : Int32} (j : Nat) (hj : i = nI j) (hlt : j < n) (hn : n < 2 ^ 31) (hdg : decode cc pc = .ok (.baload, 1))
    (kk : W p l e R s m args below meth c H locs cells slots Q (F0 m (pc + 1) ls (.int (f j) :: rest))) : W p l e R s m args below meth c H locs cells slots Q (F0 m pc ls (.int i :: .ref a :: rest)) := by
  subst hj
  refine va_zald hexec hb hK hP q0 t0 ha ht (vp_in_nI hlt hn) hdg ?_
  rw [nI_clamp (by omega)]
  exact kk
theorem va_iastN (hexec : p.tables.exec = Jvm.exec) (hb : c.code = cc) (hK : va_K D cl tys s) (hP : va_P D cl ws H) (hD : va_D A ws) (hS : va_S A H0 H locs) (q0 t0 : Nat) {cA : ClassId} {n : Nat} {f : Nat → Int32} (ha : ws[q0]? = some (a, .inl (cA, n, .inl f))) (ht : tys[t0]? = some (cA, .int)) {i : Int32} {x : Int32} (j : Nat) (hj : i = nI j) (hlt : j < n) (hn : n < 2 ^ 31) (hdg : decode cc pc = .ok (.iastore, 1))
    (kk : ∀ (H1 : Heap) (locs1 : List Loc), va_P D cl (ws.set q0 (a, .inl (cA, n, .inl (upd f j x)))) H1 → va_D A (ws.set q0 (a, .inl (cA, n, .inl (upd f j x)))) → va_S A H0 H1 locs1 → W p l e R s m args below meth c H1 locs1 cells slots Q (F0 m (pc + 1) ls rest)) : W p l e R s m args below meth c H locs cells slots Q (F0 m pc ls (.int x :: .int i :: .ref a :: rest)) := by
  subst hj
  refine va_iast hexec hb hK hP hD hS q0 t0 ha ht (vp_in_nI hlt hn) hdg ?_
  rw [nI_clamp (by omega)]
  exact kk
theorem va_zastN (hexec : p.tables.exec = Jvm.exec) (hb : c.code = cc) (hK : va_K D cl tys s) (hP : va_P D cl ws H) (hD : va_D A ws) (hS : va_S A H0 H locs) (q0 t0 : Nat) {cA : ClassId} {n : Nat} {f : Nat → Int32} (ha : ws[q0]? = some (a, .inl (cA, n, .inl f))) (ht : tys[t0]? = some (cA, .boolean)) {i : Int32} {x : Int32} (j : Nat) (hj : i = nI j) (hlt : j < n) (hn : n < 2 ^ 31) (hx : vp_nar .boolean x = x) (hdg : decode cc pc = .ok (.bastore, 1))
    (kk : ∀ (H1 : Heap) (locs1 : List Loc), va_P D cl (ws.set q0 (a, .inl (cA, n, .inl (upd f j x)))) H1 → va_D A (ws.set q0 (a, .inl (cA, n, .inl (upd f j x)))) → va_S A H0 H1 locs1 → W p l e R s m args below meth c H1 locs1 cells slots Q (F0 m (pc + 1) ls rest)) : W p l e R s m args below meth c H locs cells slots Q (F0 m pc ls (.int x :: .int i :: .ref a :: rest)) := by
  subst hj
  refine va_zast hexec hb hK hP hD hS q0 t0 ha ht (vp_in_nI hlt hn) hdg ?_
  rw [nI_clamp (by omega), hx]
  exact kk
end ALN
end
section
set_option maxHeartbeats 4000000 in
set_option maxRecDepth 100000 in
theorem kX3_size (l : Launch) (D : va_G) (cI cZ : ClassId) (h a mo w n : Nat) (C : Nat → Nat → Int32) (hz : n ≤ mo ∧ mo ≤ 200 ∧ w ≤ 6) : Met l yX3_size wsX3_size ({ frames := 0, cells := 0, slots := 0, locals := 0 } : Room) (RdP D [(cI, .int), (cZ, .boolean)] [.ref h] [(h, .inr (3, [.int (nI mo), .int (nI w), .ref a, .int (nI n)])), (a, .inl (cI, mo * w, .inl (fl w C)))]) (QcRead (nI n)) 0 0 (fun _ => False) := by
  refine rd_of (cc := cX3_size) (maxL := 1) (ret := (some .int)) (by decide) rfl (Nat.le_of_ble_eq_true rfl) ?_
  intro pp ee ss mm bw me cd ls hx hb hr hts hown hlocks hml hP hK hl
  have hl : lv_has ls 1 [(0, .ref h)] := hl
  have hf28 := hts (.fieldLink RX3 28 "OtherNames$Rows" "size" "I") (by decide +kernel)
  have hin3 := (show ∀ w ∈ wsX30, w ∈ wsX3_size by decide +kernel)
  refine lv_aload_n hx hb dX3_size_0 rfl (lv_at hl 0 rfl) ?_
  refine va_get (D := D) (ci := 3) (v := .int (nI n)) (C := RX3) (T := TX3) (N := 4) hx hb hts hin3 hown hK hP 0 rfl rfl 3 (by decide) hf28 (fun _ h9 => h9) rfl dX3_size_1 ?_
  exact rd_iret hx hb hr hlocks dX3_size_4 (by rfl)
set_option maxHeartbeats 4000000 in
set_option maxRecDepth 100000 in
theorem kX3_isFull (l : Launch) (D : va_G) (cI cZ : ClassId) (h a mo w n : Nat) (C : Nat → Nat → Int32) (hz : n ≤ mo ∧ mo ≤ 200 ∧ w ≤ 6) : Met l yX3_isFull wsX3_isFull ({ frames := 0, cells := 0, slots := 0, locals := 0 } : Room) (RdP D [(cI, .int), (cZ, .boolean)] [.ref h] [(h, .inr (3, [.int (nI mo), .int (nI w), .ref a, .int (nI n)])), (a, .inl (cI, mo * w, .inl (fl w C)))]) (QcRead (bI (decide (mo ≤ n)))) 0 0 (fun _ => False) := by
  refine rd_of (cc := cX3_isFull) (maxL := 1) (ret := (some .boolean)) (by decide) rfl (Nat.le_of_ble_eq_true rfl) ?_
  intro pp ee ss mm bw me cd ls hx hb hr hts hown hlocks hml hP hK hl
  have hl : lv_has ls 1 [(0, .ref h)] := hl
  have hf28 := hts (.fieldLink RX3 28 "OtherNames$Rows" "size" "I") (by decide +kernel)
  have hin3 := (show ∀ w ∈ wsX30, w ∈ wsX3_isFull by decide +kernel)
  have hf15 := hts (.fieldLink RX3 15 "OtherNames$Rows" "most" "I") (by decide +kernel)
  refine lv_aload_n hx hb dX3_isFull_0 rfl (lv_at hl 0 rfl) ?_
  refine va_get (D := D) (ci := 3) (v := .int (nI n)) (C := RX3) (T := TX3) (N := 4) hx hb hts hin3 hown hK hP 0 rfl rfl 3 (by decide) hf28 (fun _ h9 => h9) rfl dX3_isFull_1 ?_
  refine lv_aload_n hx hb dX3_isFull_4 rfl (lv_at hl 0 rfl) ?_
  refine va_get (D := D) (ci := 3) (v := .int (nI mo)) (C := RX3) (T := TX3) (N := 4) hx hb hts hin3 hown hK hP 0 rfl rfl 0 (by decide) hf15 (fun _ h9 => h9) rfl dX3_isFull_5 ?_
  refine lv_icmp_lt (tgt := 15) hx hb dX3_isFull_8 (by decide) (fun c_8 => ?_) (fun c_8 => ?_)
  · skip
    refine lv_iconst (v := 0) hx hb dX3_isFull_15 (by decide) ?_
    exact rd_zret hx hb hr hlocks dX3_isFull_16 (by rw [nI_ltI (by omega) (by omega)] at c_8; simp [bI]; omega)
  · skip
    refine lv_iconst (v := 1) hx hb dX3_isFull_11 (by decide) ?_
    refine lv_goto (tgt := 16) hx hb dX3_isFull_12 (by decide) ?_
    exact rd_zret hx hb hr hlocks dX3_isFull_16 (by rw [nI_ltI (by omega) (by omega)] at c_8; simp [bI]; omega)
set_option maxHeartbeats 4000000 in
set_option maxRecDepth 100000 in
theorem kX3_isThere (l : Launch) (D : va_G) (cI cZ : ClassId) (h a mo w n : Nat) (C : Nat → Nat → Int32) (r : Int32) (hz : n ≤ mo ∧ mo ≤ 200 ∧ w ≤ 6) : Met l yX3_isThere wsX3_isThere ({ frames := 0, cells := 0, slots := 0, locals := 0 } : Room) (RdP D [(cI, .int), (cZ, .boolean)] [.ref h, .int r] [(h, .inr (3, [.int (nI mo), .int (nI w), .ref a, .int (nI n)])), (a, .inl (cI, mo * w, .inl (fl w C)))]) (QcRead (bI (inR n r))) 0 0 (fun _ => False) := by
  refine rd_of (cc := cX3_isThere) (maxL := 2) (ret := (some .boolean)) (by decide) rfl (Nat.le_of_ble_eq_true rfl) ?_
  intro pp ee ss mm bw me cd ls hx hb hr hts hown hlocks hml hP hK hl
  have hl : lv_has ls 2 [(0, .ref h), (1, .int r)] := hl
  have hf28 := hts (.fieldLink RX3 28 "OtherNames$Rows" "size" "I") (by decide +kernel)
  have hin3 := (show ∀ w ∈ wsX30, w ∈ wsX3_isThere by decide +kernel)
  refine lv_iload_n hx hb dX3_isThere_0 rfl (lv_at hl 1 rfl) ?_
  refine lv_if_lt (tgt := 16) hx hb dX3_isThere_1 (by decide) (fun c_1 => ?_) (fun c_1 => ?_)
  · skip
    refine lv_iconst (v := 0) hx hb dX3_isThere_16 (by decide) ?_
    exact rd_zret hx hb hr hlocks dX3_isThere_17 (by simp [bI, inR, *])
  · skip
    refine lv_iload_n hx hb dX3_isThere_4 rfl (lv_at hl 1 rfl) ?_
    refine lv_aload_n hx hb dX3_isThere_5 rfl (lv_at hl 0 rfl) ?_
    refine va_get (D := D) (ci := 3) (v := .int (nI n)) (C := RX3) (T := TX3) (N := 4) hx hb hts hin3 hown hK hP 0 rfl rfl 3 (by decide) hf28 (fun _ h9 => h9) rfl dX3_isThere_6 ?_
    refine lv_icmp_ge (tgt := 16) hx hb dX3_isThere_9 (by decide) (fun c_9 => ?_) (fun c_9 => ?_)
    · skip
      refine lv_iconst (v := 0) hx hb dX3_isThere_16 (by decide) ?_
      exact rd_zret hx hb hr hlocks dX3_isThere_17 (by simp [bI, inR, *])
    · skip
      refine lv_iconst (v := 1) hx hb dX3_isThere_12 (by decide) ?_
      refine lv_goto (tgt := 17) hx hb dX3_isThere_13 (by decide) ?_
      exact rd_zret hx hb hr hlocks dX3_isThere_17 (by simp [bI, inR, *])
set_option maxHeartbeats 4000000 in
set_option maxRecDepth 100000 in
theorem kX3_hasCell (l : Launch) (D : va_G) (cI cZ : ClassId) (h a mo w n : Nat) (C : Nat → Nat → Int32) (r : Int32) (c : Int32) (hz : n ≤ mo ∧ mo ≤ 200 ∧ w ≤ 6) : Met l yX3_hasCell wsX3_hasCell ({ frames := 0, cells := 0, slots := 0, locals := 0 } : Room) (RdP D [(cI, .int), (cZ, .boolean)] [.ref h, .int r, .int c] [(h, .inr (3, [.int (nI mo), .int (nI w), .ref a, .int (nI n)])), (a, .inl (cI, mo * w, .inl (fl w C)))]) (QcRead (bI (inR n r && inR w c))) 0 0 (fun _ => False) := by
  refine rd_of (cc := cX3_hasCell) (maxL := 3) (ret := (some .boolean)) (by decide) rfl (Nat.le_of_ble_eq_true rfl) ?_
  intro pp ee ss mm bw me cd ls hx hb hr hts hown hlocks hml hP hK hl
  have hl : lv_has ls 3 [(0, .ref h), (1, .int r), (2, .int c)] := hl
  have hf28 := hts (.fieldLink RX3 28 "OtherNames$Rows" "size" "I") (by decide +kernel)
  have hin3 := (show ∀ w ∈ wsX30, w ∈ wsX3_hasCell by decide +kernel)
  have hf21 := hts (.fieldLink RX3 21 "OtherNames$Rows" "width" "I") (by decide +kernel)
  refine lv_iload_n hx hb dX3_hasCell_0 rfl (lv_at hl 1 rfl) ?_
  refine lv_if_lt (tgt := 28) hx hb dX3_hasCell_1 (by decide) (fun c_1 => ?_) (fun c_1 => ?_)
  · skip
    refine lv_iconst (v := 0) hx hb dX3_hasCell_28 (by decide) ?_
    exact rd_zret hx hb hr hlocks dX3_hasCell_29 (by simp [bI, inR, *])
  · skip
    refine lv_iload_n hx hb dX3_hasCell_4 rfl (lv_at hl 1 rfl) ?_
    refine lv_aload_n hx hb dX3_hasCell_5 rfl (lv_at hl 0 rfl) ?_
    refine va_get (D := D) (ci := 3) (v := .int (nI n)) (C := RX3) (T := TX3) (N := 4) hx hb hts hin3 hown hK hP 0 rfl rfl 3 (by decide) hf28 (fun _ h9 => h9) rfl dX3_hasCell_6 ?_
    refine lv_icmp_ge (tgt := 28) hx hb dX3_hasCell_9 (by decide) (fun c_9 => ?_) (fun c_9 => ?_)
    · skip
      refine lv_iconst (v := 0) hx hb dX3_hasCell_28 (by decide) ?_
      exact rd_zret hx hb hr hlocks dX3_hasCell_29 (by simp [bI, inR, *])
    · skip
      refine lv_iload_n hx hb dX3_hasCell_12 rfl (lv_at hl 2 rfl) ?_
      refine lv_if_lt (tgt := 28) hx hb dX3_hasCell_13 (by decide) (fun c_13 => ?_) (fun c_13 => ?_)
      · skip
        refine lv_iconst (v := 0) hx hb dX3_hasCell_28 (by decide) ?_
        exact rd_zret hx hb hr hlocks dX3_hasCell_29 (by simp [bI, inR, *])
      · skip
        refine lv_iload_n hx hb dX3_hasCell_16 rfl (lv_at hl 2 rfl) ?_
        refine lv_aload_n hx hb dX3_hasCell_17 rfl (lv_at hl 0 rfl) ?_
        refine va_get (D := D) (ci := 3) (v := .int (nI w)) (C := RX3) (T := TX3) (N := 4) hx hb hts hin3 hown hK hP 0 rfl rfl 1 (by decide) hf21 (fun _ h9 => h9) rfl dX3_hasCell_18 ?_
        refine lv_icmp_ge (tgt := 28) hx hb dX3_hasCell_21 (by decide) (fun c_21 => ?_) (fun c_21 => ?_)
        · skip
          refine lv_iconst (v := 0) hx hb dX3_hasCell_28 (by decide) ?_
          exact rd_zret hx hb hr hlocks dX3_hasCell_29 (by simp [bI, inR, *])
        · skip
          refine lv_iconst (v := 1) hx hb dX3_hasCell_24 (by decide) ?_
          refine lv_goto (tgt := 29) hx hb dX3_hasCell_25 (by decide) ?_
          exact rd_zret hx hb hr hlocks dX3_hasCell_29 (by simp [bI, inR, *])
set_option maxHeartbeats 4000000 in
set_option maxRecDepth 100000 in
theorem kX3_at (l : Launch) (D : va_G) (cI cZ : ClassId) (h a mo w n : Nat) (C : Nat → Nat → Int32) (r : Int32) (cx : Int32) (hz : n ≤ mo ∧ mo ≤ 200 ∧ w ≤ 6) : Met l yX3_at wsX3_at ({ frames := 1, cells := 0, slots := 0, locals := 22 } : Room) (RdP D [(cI, .int), (cZ, .boolean)] [.ref h, .int r, .int cx] [(h, .inr (3, [.int (nI mo), .int (nI w), .ref a, .int (nI n)])), (a, .inl (cI, mo * w, .inl (fl w C)))]) (QcRead (tat n w C r cx)) 0 0 (fun _ => False) := by
  refine rd_of (cc := cX3_at) (maxL := 3) (ret := (some .int)) (by decide) rfl (Nat.le_of_ble_eq_true rfl) ?_
  intro pp ee ss mm bw me cd ls hx hb hr hts hown hlocks hml hP hK hl
  have hl : lv_has ls 3 [(0, .ref h), (1, .int r), (2, .int cx)] := hl
  have hf24 := hts (.fieldLink RX3 24 "OtherNames$Rows" "cells" "[I") (by decide +kernel)
  have hin3 := (show ∀ w ∈ wsX30, w ∈ wsX3_at by decide +kernel)
  have hf21 := hts (.fieldLink RX3 21 "OtherNames$Rows" "width" "I") (by decide +kernel)
  have hbig : mo * w < 2 ^ 31 := Nat.lt_of_le_of_lt (Nat.mul_le_mul (show mo ≤ 200 by omega) (show w ≤ 6 by omega)) (by decide)
  refine lv_aload_n hx hb dX3_at_0 rfl (lv_at hl 0 rfl) ?_
  refine lv_iload_n hx hb dX3_at_1 rfl (lv_at hl 1 rfl) ?_
  refine lv_iload_n hx hb dX3_at_2 rfl (lv_at hl 2 rfl) ?_
  refine rcV (As := [.int r, .int cx]) (rest := []) (ci := 3) ⟨hx, hb, hml, hown, hts⟩ (kX3_hasCell l D cI cZ h a mo w n C r cx (by first | assumption | omega)) (cwV 2 hts gX3_at_X3_hasCell rfl rfl rfl (by decide +kernel) ⟨Nat.le_of_ble_eq_true rfl, Nat.le_of_ble_eq_true rfl⟩) hK hP [0, 1] rfl rfl rfl rfl rfl hl.1 rfl (Nat.le_of_ble_eq_true rfl) ⟨Nat.zero_le _, Nat.zero_le _⟩ dX3_at_3 ?_
  refine lb_eq (tgt := 25) hx hb dX3_at_6 (by decide) (fun c_6 => ?_) (fun c_6 => ?_)
  · skip
    refine lv_iconst (v := (-1)) hx hb dX3_at_25 (by decide) ?_
    exact rd_iret hx hb hr hlocks dX3_at_26 (by simp [tat, c_6])
  · skip
    have hi := cell_ix c_6 (by omega) (by omega)
    refine lv_aload_n hx hb dX3_at_9 rfl (lv_at hl 0 rfl) ?_
    refine va_get (D := D) (ci := 3) (v := .ref a) (C := RX3) (T := TX3) (N := 4) hx hb hts hin3 hown hK hP 0 rfl rfl 2 (by decide) hf24 (fun _ h9 => h9) rfl dX3_at_10 ?_
    refine lv_iload_n hx hb dX3_at_13 rfl (lv_at hl 1 rfl) ?_
    refine lv_aload_n hx hb dX3_at_14 rfl (lv_at hl 0 rfl) ?_
    refine va_get (D := D) (ci := 3) (v := .int (nI w)) (C := RX3) (T := TX3) (N := 4) hx hb hts hin3 hown hK hP 0 rfl rfl 1 (by decide) hf21 (fun _ h9 => h9) rfl dX3_at_15 ?_
    refine lv_imul hx hb dX3_at_18 ?_
    refine lv_iload_n hx hb dX3_at_19 rfl (lv_at hl 2 rfl) ?_
    refine lv_iadd hx hb dX3_at_20 ?_
    refine va_ialdN (D := D) (cl := vwCl) (cA := cI) (f := fl w C) hx hb hK hP 1 0 rfl rfl (r.toNatClampNeg * w + cx.toNatClampNeg) (hi.1) (cell_lt (by omega) hi.2.1 hi.2.2) (by first | decide | assumption) dX3_at_21 ?_
    refine lv_goto (tgt := 26) hx hb dX3_at_22 (by decide) ?_
    exact rd_iret hx hb hr hlocks dX3_at_26 (by rw [fl_at hi.2.2]; simp [tat, c_6])
set_option maxHeartbeats 4000000 in
set_option maxRecDepth 100000 in
theorem kX3_addRow (l : Launch) (D : va_G) (cI cZ : ClassId) (h a mo w n : Nat) (C : Nat → Nat → Int32) (hz : n ≤ mo ∧ mo ≤ 200 ∧ w ≤ 6) : Met l yX3_addRow wsX3_addRow ({ frames := 1, cells := 0, slots := 0, locals := 20 } : Room) (MuP D [(cI, .int), (cZ, .boolean)] [.ref h] [(h, .inr (3, [.int (nI mo), .int (nI w), .ref a, .int (nI n)])), (a, .inl (cI, mo * w, .inl (fl w C)))]) (QM D (some (.int (arow mo n))) [(h, .inr (3, [.int (nI mo), .int (nI w), .ref a, .int (nI n)])), (a, .inl (cI, mo * w, .inl (fl w C)))] [(h, .inr (3, [.int (nI mo), .int (nI w), .ref a, .int (nI (adn mo n))])), (a, .inl (cI, mo * w, .inl (fl w C)))]) 0 0 (adr [(h, .inr (3, [.int (nI mo), .int (nI w), .ref a, .int (nI n)])), (a, .inl (cI, mo * w, .inl (fl w C)))]) := by
  refine mu_of (cc := cX3_addRow) (maxL := 1) (ret := (some .int)) (by decide) rfl (Nat.le_of_ble_eq_true rfl) ?_
  intro pp ee ss mm bw me cd ls hx hb hr hts hown hlocks hml hK hl H locs hP hD hS
  have hl : lv_has ls 1 [(0, .ref h)] := hl
  have hf28 := hts (.fieldLink RX3 28 "OtherNames$Rows" "size" "I") (by decide +kernel)
  have hin3 := (show ∀ w ∈ wsX30, w ∈ wsX3_addRow by decide +kernel)
  refine lv_aload_n hx hb dX3_addRow_0 rfl (lv_at hl 0 rfl) ?_
  refine rcV (As := []) (rest := []) (ci := 3) ⟨hx, hb, hml, hown, hts⟩ (kX3_isFull l D cI cZ h a mo w n C (by first | assumption | omega)) (cwV 0 hts gX3_addRow_X3_isFull rfl rfl rfl (by decide +kernel) ⟨Nat.le_of_ble_eq_true rfl, Nat.le_of_ble_eq_true rfl⟩) hK hP [0, 1] rfl rfl rfl rfl rfl hl.1 rfl (Nat.le_of_ble_eq_true rfl) ⟨Nat.zero_le _, Nat.zero_le _⟩ dX3_addRow_1 ?_
  refine lb_eq (tgt := 9) hx hb dX3_addRow_4 (by decide) (fun c_4 => ?_) (fun c_4 => ?_)
  · skip
    have c_4 := of_decide_eq_false c_4
    refine lv_aload_n hx hb dX3_addRow_9 rfl (lv_at hl 0 rfl) ?_
    refine lv_dup hx hb dX3_addRow_10 rfl ?_
    refine va_get (D := D) (ci := 3) (v := .int (nI n)) (C := RX3) (T := TX3) (N := 4) hx hb hts hin3 hown hK hP 0 rfl rfl 3 (by decide) hf28 (fun _ h9 => h9) rfl dX3_addRow_11 ?_
    refine lv_iconst (v := 1) hx hb dX3_addRow_14 (by decide) ?_
    refine lv_iadd hx hb dX3_addRow_15 ?_
    refine va_put (D := D) (ci := 3) (v := .int (((nI n) + 1))) (ty := .int) (C := RX3) (T := TX3) (N := 4) hx hb hts hin3 tyX3 tyX3_ok nmX3 hown hK hP hD hS 0 rfl rfl 3 (by decide) hf28 (fun _ h9 => h9) rfl (by decide +kernel) rfl rfl (Nat.le_of_ble_eq_true rfl) dX3_addRow_16 (fun H locs hP hD hS => ?_)
    have hP : va_P D vwCl [(h, .inr (3, [.int (nI mo), .int (nI w), .ref a, .int (((nI n) + 1))])), (a, .inl (cI, mo * w, .inl (fl w C)))] H := hP
    have hD : va_D (adr _) [(h, .inr (3, [.int (nI mo), .int (nI w), .ref a, .int (((nI n) + 1))])), (a, .inl (cI, mo * w, .inl (fl w C)))] := hD
    refine lv_aload_n hx hb dX3_addRow_19 rfl (lv_at hl 0 rfl) ?_
    refine va_get (D := D) (ci := 3) (v := .int (((nI n) + 1))) (C := RX3) (T := TX3) (N := 4) hx hb hts hin3 hown hK hP 0 rfl rfl 3 (by decide) hf28 (fun _ h9 => h9) rfl dX3_addRow_20 ?_
    refine lv_iconst (v := 1) hx hb dX3_addRow_23 (by decide) ?_
    refine lv_isub hx hb dX3_addRow_24 ?_
    refine mu_iret hx hb hr hlocks hS dX3_addRow_25 ?_ ?_
    · rw [arow, if_neg c_4, ← nI_succ, nI_pred]
    have q0 : (nI (adn mo n)) = (((nI n) + 1)) := by rw [adn, if_neg c_4, nI_succ]
    rw [q0]
    exact hP
  · skip
    have c_4 := of_decide_eq_true c_4
    refine lv_iconst (v := (-1)) hx hb dX3_addRow_7 (by decide) ?_
    refine mu_iret hx hb hr hlocks hS dX3_addRow_8 ?_ ?_
    · rw [arow, if_pos c_4]
    have q0 : (nI (adn mo n)) = (nI n) := by rw [adn, if_pos c_4]
    rw [q0]
    exact hP
set_option maxHeartbeats 4000000 in
set_option maxRecDepth 100000 in
theorem kX3_put (l : Launch) (D : va_G) (cI cZ : ClassId) (h a mo w n : Nat) (C : Nat → Nat → Int32) (r : Int32) (cx : Int32) (v : Int32) (hz : n ≤ mo ∧ mo ≤ 200 ∧ w ≤ 6) : Met l yX3_put wsX3_put ({ frames := 1, cells := 0, slots := 0, locals := 22 } : Room) (MuP D [(cI, .int), (cZ, .boolean)] [.ref h, .int r, .int cx, .int v] [(h, .inr (3, [.int (nI mo), .int (nI w), .ref a, .int (nI n)])), (a, .inl (cI, mo * w, .inl (fl w C)))]) (QM D none [(h, .inr (3, [.int (nI mo), .int (nI w), .ref a, .int (nI n)])), (a, .inl (cI, mo * w, .inl (fl w C)))] [(h, .inr (3, [.int (nI mo), .int (nI w), .ref a, .int (nI n)])), (a, .inl (cI, mo * w, .inl (fl w (tput n w C r cx v))))]) 0 0 (adr [(h, .inr (3, [.int (nI mo), .int (nI w), .ref a, .int (nI n)])), (a, .inl (cI, mo * w, .inl (fl w C)))]) := by
  refine mu_of (cc := cX3_put) (maxL := 4) (ret := none) (by decide) rfl (Nat.le_of_ble_eq_true rfl) ?_
  intro pp ee ss mm bw me cd ls hx hb hr hts hown hlocks hml hK hl H locs hP hD hS
  have hl : lv_has ls 4 [(0, .ref h), (1, .int r), (2, .int cx), (3, .int v)] := hl
  have hf24 := hts (.fieldLink RX3 24 "OtherNames$Rows" "cells" "[I") (by decide +kernel)
  have hin3 := (show ∀ w ∈ wsX30, w ∈ wsX3_put by decide +kernel)
  have hf21 := hts (.fieldLink RX3 21 "OtherNames$Rows" "width" "I") (by decide +kernel)
  have hbig : mo * w < 2 ^ 31 := Nat.lt_of_le_of_lt (Nat.mul_le_mul (show mo ≤ 200 by omega) (show w ≤ 6 by omega)) (by decide)
  refine lv_aload_n hx hb dX3_put_0 rfl (lv_at hl 0 rfl) ?_
  refine lv_iload_n hx hb dX3_put_1 rfl (lv_at hl 1 rfl) ?_
  refine lv_iload_n hx hb dX3_put_2 rfl (lv_at hl 2 rfl) ?_
  refine rcV (As := [.int r, .int cx]) (rest := []) (ci := 3) ⟨hx, hb, hml, hown, hts⟩ (kX3_hasCell l D cI cZ h a mo w n C r cx (by first | assumption | omega)) (cwV 2 hts gX3_put_X3_hasCell rfl rfl rfl (by decide +kernel) ⟨Nat.le_of_ble_eq_true rfl, Nat.le_of_ble_eq_true rfl⟩) hK hP [0, 1] rfl rfl rfl rfl rfl hl.1 rfl (Nat.le_of_ble_eq_true rfl) ⟨Nat.zero_le _, Nat.zero_le _⟩ dX3_put_3 ?_
  refine lb_eq (tgt := 23) hx hb dX3_put_6 (by decide) (fun c_6 => ?_) (fun c_6 => ?_)
  · skip
    refine mu_vret hx hb hr hlocks hS dX3_put_23 ?_
    have q0 : (fl w (tput n w C r cx v)) = (fl w C) := by simp [tput, c_6]
    rw [q0]
    exact hP
  · skip
    have hi := cell_ix c_6 (by omega) (by omega)
    refine lv_aload_n hx hb dX3_put_9 rfl (lv_at hl 0 rfl) ?_
    refine va_get (D := D) (ci := 3) (v := .ref a) (C := RX3) (T := TX3) (N := 4) hx hb hts hin3 hown hK hP 0 rfl rfl 2 (by decide) hf24 (fun _ h9 => h9) rfl dX3_put_10 ?_
    refine lv_iload_n hx hb dX3_put_13 rfl (lv_at hl 1 rfl) ?_
    refine lv_aload_n hx hb dX3_put_14 rfl (lv_at hl 0 rfl) ?_
    refine va_get (D := D) (ci := 3) (v := .int (nI w)) (C := RX3) (T := TX3) (N := 4) hx hb hts hin3 hown hK hP 0 rfl rfl 1 (by decide) hf21 (fun _ h9 => h9) rfl dX3_put_15 ?_
    refine lv_imul hx hb dX3_put_18 ?_
    refine lv_iload_n hx hb dX3_put_19 rfl (lv_at hl 2 rfl) ?_
    refine lv_iadd hx hb dX3_put_20 ?_
    refine lv_iload_n hx hb dX3_put_21 rfl (lv_at hl 3 rfl) ?_
    refine va_iastN (D := D) (cl := vwCl) (cA := cI) (f := fl w C) (x := v) hx hb hK hP hD hS 1 0 rfl rfl (r.toNatClampNeg * w + cx.toNatClampNeg) (hi.1) (cell_lt (by omega) hi.2.1 hi.2.2) (by first | decide | assumption) dX3_put_22 (fun H locs hP hD hS => ?_)
    have hP : va_P D vwCl [(h, .inr (3, [.int (nI mo), .int (nI w), .ref a, .int (nI n)])), (a, .inl (cI, mo * w, .inl (upd (fl w C) (r.toNatClampNeg * w + cx.toNatClampNeg) v)))] H := hP
    have hD : va_D (adr _) [(h, .inr (3, [.int (nI mo), .int (nI w), .ref a, .int (nI n)])), (a, .inl (cI, mo * w, .inl (upd (fl w C) (r.toNatClampNeg * w + cx.toNatClampNeg) v)))] := hD
    refine mu_vret hx hb hr hlocks hS dX3_put_23 ?_
    have q0 : (fl w (tput n w C r cx v)) = (upd (fl w C) (r.toNatClampNeg * w + cx.toNatClampNeg) v) := by rw [show tput n w C r cx v = up2 C cx.toNatClampNeg r.toNatClampNeg v by simp [tput, c_6]]; exact fl_up hi.2.2
    rw [q0]
    exact hP
end
section
/-! plain rows of the people: bounds, bits, heads, groups -/
def inB (v lo hi : Int32) : Bool := !decide (v < lo) && !decide (hi < v)
def isAm (x b : Int32) : Bool := decide (((x >>> (b &&& 31)) &&& 1) = 1)
def mkOf (np : Nat) (P : Nat → Nat → Int32) (p m : Int32) : Int32 := if inB m 0 3 = true then tat np 6 P p m else -1
def okM (a b c d : Int32) : Bool := inB a 0 7 && inB b 0 7 && inB c 0 7 && inB d 0 7
def paddT (np : Nat) (P : Nat → Nat → Int32) (a b c d : Int32) : Nat → Nat → Int32 := tput (adn 24 np) 6 (tput (adn 24 np) 6 (tput (adn 24 np) 6 (tput (adn 24 np) 6 (tput (adn 24 np) 6 (tput (adn 24 np) 6 P (arow 24 np) 0 a) (arow 24 np) 1 b) (arow 24 np) 2 c) (arow 24 np) 3 d) (arow 24 np) 4 (-1)) (arow 24 np) 5 0
def isHd (np : Nat) (P : Nat → Nat → Int32) (p : Int32) : Bool := inR np p && decide (tat np 6 P p 4 = -1)
def isSt (np : Nat) (P : Nat → Nat → Int32) (p : Int32) : Bool := decide (tat np 6 P p 5 = 1)
def alls (f : Nat → Bool) : Nat → Bool
  | 0 => true
  | n + 1 => alls f n && f n
def ct (f : Nat → Bool) : Nat → Nat
  | 0 => 0
  | n + 1 => ct f n + (if f n = true then 1 else 0)
theorem alls_no {f : Nat → Bool} {i : Nat} (h : f i = false) : ∀ {n : Nat}, i < n → alls f n = false
  | 0, h2 => absurd h2 (Nat.not_lt_zero _)
  | n + 1, h2 => by
    rcases Nat.lt_or_ge i n with q | q
    · simp [alls, alls_no h q]
    · have e : i = n := by omega
      subst e
      simp [alls, h]
theorem ct_le (f : Nat → Bool) : ∀ n, ct f n ≤ n
  | 0 => Nat.le_refl 0
  | n + 1 => by have ih := ct_le f n; unfold ct; split <;> omega
theorem ct_yes {f : Nat → Bool} {i : Nat} (h : f i = true) : nI (ct f i) + 1 = nI (ct f (i + 1)) := by
  rw [nI_1]; congr 1; simp [ct, h]
theorem ct_no {f : Nat → Bool} {i : Nat} (h : f i = false) : nI (ct f i) = nI (ct f (i + 1)) := by
  congr 1; simp [ct, h]
def alB (np : Nat) (P : Nat → Nat → Int32) (p q set : Int32) (m : Nat) : Bool := !isAm set (nI m) || decide (mkOf np P p (nI m) = mkOf np P q (nI m))
def hdF : Nat → (Nat → Int32) → Nat → Nat
  | 0, _, p => p
  | k + 1, w, p => if w p = -1 then p else hdF k w (w p).toNatClampNeg
def hd (w : Nat → Int32) (p : Nat) : Nat := hdF 24 w p
def HP (np : Nat) (w : Nat → Int32) : Prop := (∀ p, p < np → (w p = -1 ∨ ∃ q, q < np ∧ w p = nI q)) ∧ ∃ rk : Nat → Nat, ∀ p q, p < np → q < np → w p = nI q → rk q < rk p
theorem hdF_root {w : Nat → Int32} {p : Nat} (h : w p = -1) : ∀ k, hdF k w p = p
  | 0 => rfl
  | k + 1 => by simp [hdF, h]
theorem hdF_step {w : Nat → Int32} {p q : Nat} (h : w p = nI q) (hn : ¬ w p = -1) (hq : q < 2 ^ 31) (k : Nat) : hdF (k + 1) w p = hdF k w q := by
  rw [hdF, if_neg hn, h, nI_clamp hq]
theorem hdF_lt {np : Nat} {w : Nat → Int32} (h : ∀ p, p < np → (w p = -1 ∨ ∃ q, q < np ∧ w p = nI q)) (hn : np < 2 ^ 31) : ∀ (k p : Nat), p < np → hdF k w p < np
  | 0, p, hp => hp
  | k + 1, p, hp => by
    by_cases e : w p = -1
    · rw [hdF_root e]; exact hp
    · obtain ⟨q, hq, e2⟩ := (h p hp).resolve_left e
      rw [hdF_step e2 e (by omega)]
      exact hdF_lt h hn k q hq
theorem hd_lt {np : Nat} {w : Nat → Int32} (h : HP np w) (hn : np ≤ 24) {p : Nat} (hp : p < np) : hd w p < np := hdF_lt h.1 (by omega) 24 p hp
/-- all under a head struck out, up to i -/
def strk (np : Nat) (P : Nat → Nat → Int32) (h : Nat) (i : Nat) : Nat → Nat → Int32 := fun c r => if c = 5 ∧ r < np ∧ r < i ∧ hd (P 4) r = h then 1 else P c r
theorem strk_0 (np : Nat) (P : Nat → Nat → Int32) (h : Nat) : strk np P h 0 = P := by
  funext c r; simp [strk]
theorem strk_4 (np : Nat) (P : Nat → Nat → Int32) (h i : Nat) : strk np P h i 4 = P 4 := by
  funext r; simp [strk]
theorem strk_yes {np : Nat} {P : Nat → Nat → Int32} {h i : Nat} (hi : i < np) (hh : hd (P 4) i = h) : up2 (strk np P h i) 5 i 1 = strk np P h (i + 1) := by
  funext c r
  unfold up2 strk upd
  by_cases hc : c = 5
  · subst hc
    by_cases hr : r = i
    · subst hr; simp [hi, hh]
    · have : (r < i + 1) ↔ (r < i) := by omega
      simp [hr, this]
  · simp [hc]
theorem strk_no {np : Nat} {P : Nat → Nat → Int32} {h i : Nat} (hh : ¬ (i < np ∧ hd (P 4) i = h)) : strk np P h i = strk np P h (i + 1) := by
  funext c r
  unfold strk
  by_cases hr : r = i
  · subst hr
    rw [if_neg (by omega), if_neg]
    rintro ⟨h1, h2, h3, h4⟩
    exact hh ⟨h2, h4⟩
  · have : (r < i + 1) ↔ (r < i) := by omega
    simp only [this]
theorem lit_le {n : Int32} {N : Nat} (e : n = nI N) {i : Nat} (hN : N < 2 ^ 31) (hi : i < 2 ^ 31) : n ≤ nI i ↔ N ≤ i := by rw [e]; exact nI_leI hN hi
theorem le4 (m : Int32) : (4 ≤ m) = (3 < m) := by
  rw [fa_le, fa_lt]
  have h4 : (4 : Int32).toInt = 4 := by decide
  have h3 : (3 : Int32).toInt = 3 := by decide
  rw [h4, h3]
  exact propext (by omega)
theorem lit_T {n : Int32} {i : Nat} (h : n ≤ nI i) (N : Nat) (e : n = nI N) (hN : N < 2 ^ 31) (hi : i < 2 ^ 31) : N ≤ i := (lit_le e hN hi).mp h
theorem lit_F {n : Int32} {i : Nat} (h : ¬ n ≤ nI i) (N : Nat) (e : n = nI N) (hN : N < 2 ^ 31) (hi : i < 2 ^ 31) : i < N := Nat.lt_of_not_le (fun q => h ((lit_le e hN hi).mpr q))
theorem adn_le {mo n : Nat} (h : n ≤ mo) : adn mo n ≤ mo := by unfold adn; split <;> omega
theorem hdF_back (w : Nat → Int32) : ∀ (k p : Nat), hdF (k + 1) w p = if w (hdF k w p) = -1 then hdF k w p else (w (hdF k w p)).toNatClampNeg
  | 0, p => rfl
  | k + 1, p => by
    by_cases e : w p = -1
    · rw [hdF_root e, hdF_root e, if_pos e]
    · have h1 : hdF (k + 1 + 1) w p = hdF (k + 1) w (w p).toNatClampNeg := by rw [hdF, if_neg e]
      have h2 : hdF (k + 1) w p = hdF k w (w p).toNatClampNeg := by rw [hdF, if_neg e]
      rw [h1, h2]
      exact hdF_back w k _
theorem fb_holes : ∀ (m n : Nat) (f : Nat → Nat), (∀ i, i < n → f i < m) → (∀ i j, i < j → j < n → f i ≠ f j) → n ≤ m
  | 0, n, f, h, _ => by
    rcases Nat.eq_zero_or_pos n with e | e
    · omega
    · exact absurd (h 0 e) (Nat.not_lt_zero _)
  | m + 1, n, f, h, hd => by
    by_cases hx : ∃ k, k < n ∧ f k = m
    · obtain ⟨k, hk, ek⟩ := hx
      have h1 := fb_holes m (n - 1) (fun i => if i < k then f i else f (i + 1)) (by
        intro i hi
        by_cases c : i < k
        · have a := h i (by omega)
          have b : f i ≠ f k := hd i k c hk
          simp only [c, if_true]
          omega
        · have a := h (i + 1) (by omega)
          have b : f k ≠ f (i + 1) := hd k (i + 1) (by omega) (by omega)
          simp only [c, if_false]
          omega) (by
        intro i j hij hj
        by_cases c : i < k <;> by_cases d : j < k <;> simp only [c, d, if_true, if_false]
        · exact hd i j hij (by omega)
        · exact hd i (j + 1) (by omega) (by omega)
        · omega
        · exact hd (i + 1) (j + 1) (by omega) (by omega))
      omega
    · have h1 := fb_holes m n f (fun i hi => by
        have a := h i hi
        have b : f i ≠ m := fun e => hx ⟨i, hi, e⟩
        omega) hd
      omega
theorem m1_nI {q : Nat} (h : q < 2 ^ 31) : ¬ nI q = -1 := by
  rw [fa_eq, nI_toInt h]
  have : (-1 : Int32).toInt = -1 := by decide
  omega
theorem HP.root {np : Nat} {w : Nat → Int32} (h : HP np w) (hn : np ≤ 24) {p : Nat} (hp : p < np) : w (hd w p) = -1 := by
  obtain ⟨hv, rk, hrk⟩ := h
  have hlt : ∀ k, hdF k w p < np := fun k => hdF_lt hv (by omega) k p hp
  by_cases hall : ∃ k, k ≤ 24 ∧ w (hdF k w p) = -1
  · obtain ⟨k, hk, e⟩ := hall
    have key : ∀ d, hdF (k + d) w p = hdF k w p := by
      intro d
      induction d with
      | zero => rfl
      | succ d ih =>
        rw [← Nat.add_assoc, hdF_back, ih, if_pos e]
    have := key (24 - k)
    rw [show k + (24 - k) = 24 by omega] at this
    unfold hd
    rw [this]; exact e
  · have hne : ∀ k, k ≤ 24 → ¬ w (hdF k w p) = -1 := fun k hk e => hall ⟨k, hk, e⟩
    have hst : ∀ k, k ≤ 24 → rk (hdF (k + 1) w p) < rk (hdF k w p) := by
      intro k hk
      obtain ⟨q, hq, e⟩ := (hv _ (hlt k)).resolve_left (hne k hk)
      rw [hdF_back, if_neg (hne k hk), e, nI_clamp (by omega)]
      exact hrk _ q (hlt k) hq e
    have hdec : ∀ d i, i + d ≤ 24 → rk (hdF (i + d) w p) + d ≤ rk (hdF i w p) := by
      intro d
      induction d with
      | zero => intro i _; exact Nat.le_refl _
      | succ d ih =>
        intro i hi
        have h1 := ih i (by omega)
        have h2 := hst (i + d) (by omega)
        show rk (hdF (i + d + 1) w p) + (d + 1) ≤ _
        omega
    have := fb_holes np 25 (fun i => hdF i w p) (fun i _ => hlt i) (fun i j hij hj => by
      intro e
      have h1 := hdec (j - i) i (by omega)
      rw [show i + (j - i) = j by omega] at h1
      have e' : hdF i w p = hdF j w p := e
      rw [← e'] at h1
      omega)
    omega
/-- who is in whom has the same head -/
theorem HP.hd_step {np : Nat} {w : Nat → Int32} (h : HP np w) (hn : np ≤ 24) {p q : Nat} (hp : p < np) (hq : q < np) (e : w p = nI q) : hd w p = hd w q := by
  have h1 : hd w p = hdF 23 w q := by
    unfold hd
    exact hdF_step e (by rw [e]; exact m1_nI (by omega)) (by omega) 23
  have h2 : w (hdF 23 w q) = -1 := by rw [← h1]; exact h.root hn hp
  have h3 : hd w q = hdF 23 w q := by
    unfold hd
    rw [hdF_back, if_pos h2]
  rw [h1, h3]
theorem nI_inj {a b : Nat} (ha : a < 2 ^ 31) (hb : b < 2 ^ 31) (e : nI a = nI b) : a = b := (nI_eq ha hb).mp e
theorem HP.join {np : Nat} {w : Nat → Int32} (h : HP np w) (hn : np ≤ 24) {a b : Nat} (ha : a < np) (hb : b < np) (hab : a ≠ b) (ea : w a = -1) (eb : w b = -1) : HP np (upd w b (nI a)) := by
  have h' := h
  obtain ⟨hv, rk, hrk⟩ := h
  refine ⟨fun p hp => ?_, fun x => if hd w x = b then rk x + rk a + 1 else rk x, fun p q hp hq e => ?_⟩
  · unfold upd
    by_cases c : p = b
    · rw [if_pos c]; exact Or.inr ⟨a, ha, rfl⟩
    · rw [if_neg c]; exact hv p hp
  · unfold upd at e
    by_cases c : p = b
    · rw [if_pos c] at e
      have e2 : a = q := nI_inj (by omega) (by omega) e
      subst e2
      subst c
      have h1 : hd w p = p := hdF_root eb 24
      have h2 : hd w a = a := hdF_root ea 24
      show (if hd w a = p then _ else _) < (if hd w p = p then _ else _)
      rw [h1, h2, if_neg hab, if_pos rfl]
      omega
    · rw [if_neg c] at e
      have h1 := h'.hd_step hn hp hq e
      have h2 := hrk p q hp hq e
      show (if hd w q = b then _ else _) < (if hd w p = b then _ else _)
      rw [h1]
      split <;> omega
theorem HP.part {np : Nat} {w : Nat → Int32} (h : HP np w) (hn : np ≤ 24) (b : Nat) : HP np (upd w b (-1)) := by
  obtain ⟨hv, rk, hrk⟩ := h
  refine ⟨fun p hp => ?_, rk, fun p q hp hq e => ?_⟩
  · unfold upd
    by_cases c : p = b
    · rw [if_pos c]; exact Or.inl rfl
    · rw [if_neg c]; exact hv p hp
  · unfold upd at e
    by_cases c : p = b
    · rw [if_pos c] at e; exact absurd e.symm (m1_nI (by omega))
    · rw [if_neg c] at e; exact hrk p q hp hq e
theorem HP.add {np : Nat} {w : Nat → Int32} (h : HP np w) (hn : np ≤ 24) : HP (np + 1) (upd w np (-1)) := by
  obtain ⟨hv, rk, hrk⟩ := h
  refine ⟨fun p hp => ?_, rk, fun p q hp hq e => ?_⟩
  · unfold upd
    by_cases c : p = np
    · rw [if_pos c]; exact Or.inl rfl
    · rw [if_neg c]
      rcases hv p (by omega) with g | ⟨q, hq, g⟩
      · exact Or.inl g
      · exact Or.inr ⟨q, by omega, g⟩
  · unfold upd at e
    by_cases c : p = np
    · rw [if_pos c] at e; exact absurd e.symm (m1_nI (by omega))
    · rw [if_neg c] at e
      rcases hv p (by omega) with g | ⟨q2, hq2, g⟩
      · rw [g] at e; exact absurd e.symm (m1_nI (by omega))
      · rw [g] at e
        have e2 := nI_inj (by omega) (by omega) e
        subst e2
        exact hrk p q2 (by omega) hq2 g
def okJ (np : Nat) (P : Nat → Nat → Int32) (a b : Int32) : Bool := !decide (a = b) && isHd np P a && isHd np P b
def joinT (np : Nat) (P : Nat → Nat → Int32) (a b : Int32) : Nat → Nat → Int32 := if okJ np P a b = true then (if (isSt np (tput np 6 P b 4 a) a || isSt np (tput np 6 P b 4 a) b) = true then strk np (tput np 6 P b 4 a) a.toNatClampNeg 24 else tput np 6 P b 4 a) else P
theorem isHd_ex {np : Nat} {P : Nat → Nat → Int32} {p : Int32} (h : isHd np P p = true) (hn : np ≤ 24) : ∃ j, j < np ∧ p = nI j ∧ P 4 j = -1 := by
  unfold isHd at h
  rw [Bool.and_eq_true] at h
  obtain ⟨j, hj, rfl⟩ := inR_ex h.1 (by omega)
  have h2 := of_decide_eq_true h.2
  rw [show tat np 6 P (nI j) 4 = P 4 j from tat_nI (c := 4) (by omega) (by omega) hj (by omega)] at h2
  exact ⟨j, hj, rfl, h2⟩
theorem HP.joinT {np : Nat} {P : Nat → Nat → Int32} (h : HP np (P 4)) (hn : np ≤ 24) {a b : Nat} (ha : a < np) (hb : b < np) (hab : ¬ nI a = nI b) (ea : P 4 a = -1) (eb : P 4 b = -1) : HP np ((tput np 6 P (nI b) 4 (nI a)) 4) := by
  rw [show tput np 6 P (nI b) 4 (nI a) = up2 P 4 b (nI a) from tput_nI (c := 4) (by omega) (by omega) hb (by omega)]
  exact h.join hn ha hb (fun e => hab (by rw [e])) ea eb
end
section
set_option maxHeartbeats 4000000 in
set_option maxRecDepth 100000 in
theorem kX2_isMark (l : Launch) (D : va_G) (cI cZ : ClassId)  (m : Int32) : Met l yX2_isMark wsX2_isMark ({ frames := 0, cells := 0, slots := 0, locals := 0 } : Room) (RdP D [(cI, .int), (cZ, .boolean)] [.int m] []) (QcRead (bI (inB m 0 3))) 0 0 (fun _ => False) := by
  refine rd_of (cc := cX2_isMark) (maxL := 1) (ret := (some .boolean)) (by decide) rfl (Nat.le_of_ble_eq_true rfl) ?_
  intro pp ee ss mm bw me cd ls hx hb hr hts hown hlocks hml hP hK hl
  have hl : lv_has ls 1 [(0, .int m)] := hl
  refine lv_iload_n hx hb dX2_isMark_0 rfl (lv_at hl 0 rfl) ?_
  refine lv_if_lt (tgt := 13) hx hb dX2_isMark_1 (by decide) (fun c_1 => ?_) (fun c_1 => ?_)
  · skip
    refine lv_iconst (v := 0) hx hb dX2_isMark_13 (by decide) ?_
    exact rd_zret hx hb hr hlocks dX2_isMark_14 (by simp [bI, inB, ← le4, c_1])
  · skip
    refine lv_iload_n hx hb dX2_isMark_4 rfl (lv_at hl 0 rfl) ?_
    refine lv_iconst (v := 4) hx hb dX2_isMark_5 (by decide) ?_
    refine lv_icmp_ge (tgt := 13) hx hb dX2_isMark_6 (by decide) (fun c_6 => ?_) (fun c_6 => ?_)
    · skip
      refine lv_iconst (v := 0) hx hb dX2_isMark_13 (by decide) ?_
      exact rd_zret hx hb hr hlocks dX2_isMark_14 (by simp [bI, inB, ← le4, c_1, c_6])
    · skip
      refine lv_iconst (v := 1) hx hb dX2_isMark_9 (by decide) ?_
      refine lv_goto (tgt := 14) hx hb dX2_isMark_10 (by decide) ?_
      exact rd_zret hx hb hr hlocks dX2_isMark_14 (by simp [bI, inB, ← le4, c_1, c_6])
set_option maxHeartbeats 4000000 in
set_option maxRecDepth 100000 in
theorem kX2_isMarkNumber (l : Launch) (D : va_G) (cI cZ : ClassId)  (n : Int32) : Met l yX2_isMarkNumber wsX2_isMarkNumber ({ frames := 0, cells := 0, slots := 0, locals := 0 } : Room) (RdP D [(cI, .int), (cZ, .boolean)] [.int n] []) (QcRead (bI (inB n 0 7))) 0 0 (fun _ => False) := by
  refine rd_of (cc := cX2_isMarkNumber) (maxL := 1) (ret := (some .boolean)) (by decide) rfl (Nat.le_of_ble_eq_true rfl) ?_
  intro pp ee ss mm bw me cd ls hx hb hr hts hown hlocks hml hP hK hl
  have hl : lv_has ls 1 [(0, .int n)] := hl
  refine lv_iload_n hx hb dX2_isMarkNumber_0 rfl (lv_at hl 0 rfl) ?_
  refine lv_if_lt (tgt := 14) hx hb dX2_isMarkNumber_1 (by decide) (fun c_1 => ?_) (fun c_1 => ?_)
  · skip
    refine lv_iconst (v := 0) hx hb dX2_isMarkNumber_14 (by decide) ?_
    exact rd_zret hx hb hr hlocks dX2_isMarkNumber_15 (by simp [bI, inB, c_1])
  · skip
    refine lv_iload_n hx hb dX2_isMarkNumber_4 rfl (lv_at hl 0 rfl) ?_
    refine lv_bipush (v := 7) hx hb dX2_isMarkNumber_5 (by decide) ?_
    refine lv_icmp_gt (tgt := 14) hx hb dX2_isMarkNumber_7 (by decide) (fun c_7 => ?_) (fun c_7 => ?_)
    · skip
      refine lv_iconst (v := 0) hx hb dX2_isMarkNumber_14 (by decide) ?_
      exact rd_zret hx hb hr hlocks dX2_isMarkNumber_15 (by simp [bI, inB, c_1, c_7])
    · skip
      refine lv_iconst (v := 1) hx hb dX2_isMarkNumber_10 (by decide) ?_
      refine lv_goto (tgt := 15) hx hb dX2_isMarkNumber_11 (by decide) ?_
      exact rd_zret hx hb hr hlocks dX2_isMarkNumber_15 (by simp [bI, inB, c_1, c_7])
set_option maxHeartbeats 4000000 in
set_option maxRecDepth 100000 in
theorem kX2_isAmong (l : Launch) (D : va_G) (cI cZ : ClassId)  (x : Int32) (b : Int32) : Met l yX2_isAmong wsX2_isAmong ({ frames := 0, cells := 0, slots := 0, locals := 0 } : Room) (RdP D [(cI, .int), (cZ, .boolean)] [.int x, .int b] []) (QcRead (bI (isAm x b))) 0 0 (fun _ => False) := by
  refine rd_of (cc := cX2_isAmong) (maxL := 2) (ret := (some .boolean)) (by decide) rfl (Nat.le_of_ble_eq_true rfl) ?_
  intro pp ee ss mm bw me cd ls hx hb hr hts hown hlocks hml hP hK hl
  have hl : lv_has ls 2 [(0, .int x), (1, .int b)] := hl
  refine lv_iload_n hx hb dX2_isAmong_0 rfl (lv_at hl 0 rfl) ?_
  refine lv_iload_n hx hb dX2_isAmong_1 rfl (lv_at hl 1 rfl) ?_
  refine lv_ishr hx hb dX2_isAmong_2 ?_
  refine lv_iconst (v := 1) hx hb dX2_isAmong_3 (by decide) ?_
  refine lv_iand hx hb dX2_isAmong_4 ?_
  refine lv_iconst (v := 1) hx hb dX2_isAmong_5 (by decide) ?_
  refine lv_icmp_ne (tgt := 13) hx hb dX2_isAmong_6 (by decide) (fun c_6 => ?_) (fun c_6 => ?_)
  · skip
    refine lv_iconst (v := 0) hx hb dX2_isAmong_13 (by decide) ?_
    exact rd_zret hx hb hr hlocks dX2_isAmong_14 (by simp [bI, isAm, c_6])
  · skip
    refine lv_iconst (v := 1) hx hb dX2_isAmong_9 (by decide) ?_
    refine lv_goto (tgt := 14) hx hb dX2_isAmong_10 (by decide) ?_
    exact rd_zret hx hb hr hlocks dX2_isAmong_14 (by simp [bI, isAm, c_6])
set_option maxHeartbeats 4000000 in
set_option maxRecDepth 100000 in
theorem kX2_size (l : Launch) (D : va_G) (cI cZ : ClassId) (pe hP_ aP np : Nat) (P : Nat → Nat → Int32) (hnp : np ≤ 24) : Met l yX2_size wsX2_size ({ frames := 1, cells := 0, slots := 0, locals := 20 } : Room) (RdP D [(cI, .int), (cZ, .boolean)] [.ref pe] [(pe, .inr (2, [.ref hP_])), (hP_, .inr (3, [.int (nI 24), .int (nI 6), .ref aP, .int (nI np)])), (aP, .inl (cI, 24 * 6, .inl (fl 6 P)))]) (QcRead (nI np)) 0 0 (fun _ => False) := by
  refine rd_of (cc := cX2_size) (maxL := 1) (ret := (some .int)) (by decide) rfl (Nat.le_of_ble_eq_true rfl) ?_
  intro pp ee ss mm bw me cd ls hx hb hr hts hown hlocks hml hP hK hl
  have hl : lv_has ls 1 [(0, .ref pe)] := hl
  have hf16 := hts (.fieldLink RX2 16 "OtherNames$People" "rows" "LOtherNames$Rows;") (by decide +kernel)
  have hin2 := (show ∀ w ∈ wsX20, w ∈ wsX2_size by decide +kernel)
  refine lv_aload_n hx hb dX2_size_0 rfl (lv_at hl 0 rfl) ?_
  refine va_get (D := D) (ci := 2) (v := .ref hP_) (C := RX2) (T := TX2) (N := 1) hx hb hts hin2 hown hK hP 0 rfl rfl 0 (by decide) hf16 (fun _ h9 => h9) rfl dX2_size_1 ?_
  refine rcV (As := []) (rest := []) (ci := 3) ⟨hx, hb, hml, hown, hts⟩ (kX3_size l D cI cZ hP_ aP 24 6 np P (by first | assumption | omega)) (cwV 0 hts gX2_size_X3_size rfl rfl rfl (by decide +kernel) ⟨Nat.le_of_ble_eq_true rfl, Nat.le_of_ble_eq_true rfl⟩) hK hP [1, 2] rfl rfl rfl rfl rfl hl.1 rfl (Nat.le_of_ble_eq_true rfl) ⟨Nat.zero_le _, Nat.zero_le _⟩ dX2_size_4 ?_
  exact rd_iret hx hb hr hlocks dX2_size_7 (by rfl)
set_option maxHeartbeats 4000000 in
set_option maxRecDepth 100000 in
theorem kX2_isThere (l : Launch) (D : va_G) (cI cZ : ClassId) (pe hP_ aP np : Nat) (P : Nat → Nat → Int32) (p : Int32) (hnp : np ≤ 24) : Met l yX2_isThere wsX2_isThere ({ frames := 1, cells := 0, slots := 0, locals := 21 } : Room) (RdP D [(cI, .int), (cZ, .boolean)] [.ref pe, .int p] [(pe, .inr (2, [.ref hP_])), (hP_, .inr (3, [.int (nI 24), .int (nI 6), .ref aP, .int (nI np)])), (aP, .inl (cI, 24 * 6, .inl (fl 6 P)))]) (QcRead (bI (inR np p))) 0 0 (fun _ => False) := by
  refine rd_of (cc := cX2_isThere) (maxL := 2) (ret := (some .boolean)) (by decide) rfl (Nat.le_of_ble_eq_true rfl) ?_
  intro pp ee ss mm bw me cd ls hx hb hr hts hown hlocks hml hP hK hl
  have hl : lv_has ls 2 [(0, .ref pe), (1, .int p)] := hl
  have hf16 := hts (.fieldLink RX2 16 "OtherNames$People" "rows" "LOtherNames$Rows;") (by decide +kernel)
  have hin2 := (show ∀ w ∈ wsX20, w ∈ wsX2_isThere by decide +kernel)
  refine lv_aload_n hx hb dX2_isThere_0 rfl (lv_at hl 0 rfl) ?_
  refine va_get (D := D) (ci := 2) (v := .ref hP_) (C := RX2) (T := TX2) (N := 1) hx hb hts hin2 hown hK hP 0 rfl rfl 0 (by decide) hf16 (fun _ h9 => h9) rfl dX2_isThere_1 ?_
  refine lv_iload_n hx hb dX2_isThere_4 rfl (lv_at hl 1 rfl) ?_
  refine rcV (As := [.int p]) (rest := []) (ci := 3) ⟨hx, hb, hml, hown, hts⟩ (kX3_isThere l D cI cZ hP_ aP 24 6 np P p (by first | assumption | omega)) (cwV 1 hts gX2_isThere_X3_isThere rfl rfl rfl (by decide +kernel) ⟨Nat.le_of_ble_eq_true rfl, Nat.le_of_ble_eq_true rfl⟩) hK hP [1, 2] rfl rfl rfl rfl rfl hl.1 rfl (Nat.le_of_ble_eq_true rfl) ⟨Nat.zero_le _, Nat.zero_le _⟩ dX2_isThere_5 ?_
  exact rd_zret hx hb hr hlocks dX2_isThere_8 (by rfl)
set_option maxHeartbeats 4000000 in
set_option maxRecDepth 100000 in
theorem kX2_markOf (l : Launch) (D : va_G) (cI cZ : ClassId) (pe hP_ aP np : Nat) (P : Nat → Nat → Int32) (p : Int32) (m : Int32) (hnp : np ≤ 24) : Met l yX2_markOf wsX2_markOf ({ frames := 2, cells := 0, slots := 0, locals := 44 } : Room) (RdP D [(cI, .int), (cZ, .boolean)] [.ref pe, .int p, .int m] [(pe, .inr (2, [.ref hP_])), (hP_, .inr (3, [.int (nI 24), .int (nI 6), .ref aP, .int (nI np)])), (aP, .inl (cI, 24 * 6, .inl (fl 6 P)))]) (QcRead (mkOf np P p m)) 0 0 (fun _ => False) := by
  refine rd_of (cc := cX2_markOf) (maxL := 3) (ret := (some .int)) (by decide) rfl (Nat.le_of_ble_eq_true rfl) ?_
  intro pp ee ss mm bw me cd ls hx hb hr hts hown hlocks hml hP hK hl
  have hl : lv_has ls 3 [(0, .ref pe), (1, .int p), (2, .int m)] := hl
  have hf16 := hts (.fieldLink RX2 16 "OtherNames$People" "rows" "LOtherNames$Rows;") (by decide +kernel)
  have hin2 := (show ∀ w ∈ wsX20, w ∈ wsX2_markOf by decide +kernel)
  refine lv_iload_n hx hb dX2_markOf_0 rfl (lv_at hl 2 rfl) ?_
  refine rcS (As := [.int m]) (rest := []) ⟨hx, hb, hml, hown, hts⟩ (kX2_isMark l D cI cZ m) (va_cwS 1 hts gX2_markOf_X2_isMark rfl rfl rfl (by decide +kernel) ⟨Nat.le_of_ble_eq_true rfl, Nat.le_of_ble_eq_true rfl⟩) hK hP [] rfl rfl hl.1 rfl (Nat.le_of_ble_eq_true rfl) ⟨Nat.zero_le _, Nat.zero_le _⟩ dX2_markOf_1 ?_
  refine lb_eq (tgt := 19) hx hb dX2_markOf_4 (by decide) (fun c_4 => ?_) (fun c_4 => ?_)
  · skip
    refine lv_iconst (v := (-1)) hx hb dX2_markOf_19 (by decide) ?_
    exact rd_iret hx hb hr hlocks dX2_markOf_20 (by simp [mkOf, c_4])
  · skip
    refine lv_aload_n hx hb dX2_markOf_7 rfl (lv_at hl 0 rfl) ?_
    refine va_get (D := D) (ci := 2) (v := .ref hP_) (C := RX2) (T := TX2) (N := 1) hx hb hts hin2 hown hK hP 0 rfl rfl 0 (by decide) hf16 (fun _ h9 => h9) rfl dX2_markOf_8 ?_
    refine lv_iload_n hx hb dX2_markOf_11 rfl (lv_at hl 1 rfl) ?_
    refine lv_iload_n hx hb dX2_markOf_12 rfl (lv_at hl 2 rfl) ?_
    refine rcV (As := [.int p, .int m]) (rest := []) (ci := 3) ⟨hx, hb, hml, hown, hts⟩ (kX3_at l D cI cZ hP_ aP 24 6 np P p m (by first | assumption | omega)) (cwV 2 hts gX2_markOf_X3_at rfl rfl rfl (by decide +kernel) ⟨Nat.le_of_ble_eq_true rfl, Nat.le_of_ble_eq_true rfl⟩) hK hP [1, 2] rfl rfl rfl rfl rfl hl.1 rfl (Nat.le_of_ble_eq_true rfl) ⟨Nat.zero_le _, Nat.zero_le _⟩ dX2_markOf_13 ?_
    refine lv_goto (tgt := 20) hx hb dX2_markOf_16 (by decide) ?_
    exact rd_iret hx hb hr hlocks dX2_markOf_20 (by simp [mkOf, c_4])
set_option maxHeartbeats 4000000 in
set_option maxRecDepth 100000 in
theorem kX2_holderOf (l : Launch) (D : va_G) (cI cZ : ClassId) (pe hP_ aP np : Nat) (P : Nat → Nat → Int32) (p : Int32) (hnp : np ≤ 24) : Met l yX2_holderOf wsX2_holderOf ({ frames := 2, cells := 0, slots := 0, locals := 44 } : Room) (RdP D [(cI, .int), (cZ, .boolean)] [.ref pe, .int p] [(pe, .inr (2, [.ref hP_])), (hP_, .inr (3, [.int (nI 24), .int (nI 6), .ref aP, .int (nI np)])), (aP, .inl (cI, 24 * 6, .inl (fl 6 P)))]) (QcRead (tat np 6 P p 4)) 0 0 (fun _ => False) := by
  refine rd_of (cc := cX2_holderOf) (maxL := 2) (ret := (some .int)) (by decide) rfl (Nat.le_of_ble_eq_true rfl) ?_
  intro pp ee ss mm bw me cd ls hx hb hr hts hown hlocks hml hP hK hl
  have hl : lv_has ls 2 [(0, .ref pe), (1, .int p)] := hl
  have hf16 := hts (.fieldLink RX2 16 "OtherNames$People" "rows" "LOtherNames$Rows;") (by decide +kernel)
  have hin2 := (show ∀ w ∈ wsX20, w ∈ wsX2_holderOf by decide +kernel)
  refine lv_aload_n hx hb dX2_holderOf_0 rfl (lv_at hl 0 rfl) ?_
  refine va_get (D := D) (ci := 2) (v := .ref hP_) (C := RX2) (T := TX2) (N := 1) hx hb hts hin2 hown hK hP 0 rfl rfl 0 (by decide) hf16 (fun _ h9 => h9) rfl dX2_holderOf_1 ?_
  refine lv_iload_n hx hb dX2_holderOf_4 rfl (lv_at hl 1 rfl) ?_
  refine lv_iconst (v := 4) hx hb dX2_holderOf_5 (by decide) ?_
  refine rcV (As := [.int p, .int 4]) (rest := []) (ci := 3) ⟨hx, hb, hml, hown, hts⟩ (kX3_at l D cI cZ hP_ aP 24 6 np P p 4 (by first | assumption | omega)) (cwV 2 hts gX2_holderOf_X3_at rfl rfl rfl (by decide +kernel) ⟨Nat.le_of_ble_eq_true rfl, Nat.le_of_ble_eq_true rfl⟩) hK hP [1, 2] rfl rfl rfl rfl rfl hl.1 rfl (Nat.le_of_ble_eq_true rfl) ⟨Nat.zero_le _, Nat.zero_le _⟩ dX2_holderOf_6 ?_
  exact rd_iret hx hb hr hlocks dX2_holderOf_9 (by rfl)
set_option maxHeartbeats 4000000 in
set_option maxRecDepth 100000 in
theorem kX2_isStruckOut (l : Launch) (D : va_G) (cI cZ : ClassId) (pe hP_ aP np : Nat) (P : Nat → Nat → Int32) (p : Int32) (hnp : np ≤ 24) : Met l yX2_isStruckOut wsX2_isStruckOut ({ frames := 2, cells := 0, slots := 0, locals := 44 } : Room) (RdP D [(cI, .int), (cZ, .boolean)] [.ref pe, .int p] [(pe, .inr (2, [.ref hP_])), (hP_, .inr (3, [.int (nI 24), .int (nI 6), .ref aP, .int (nI np)])), (aP, .inl (cI, 24 * 6, .inl (fl 6 P)))]) (QcRead (bI (isSt np P p))) 0 0 (fun _ => False) := by
  refine rd_of (cc := cX2_isStruckOut) (maxL := 2) (ret := (some .boolean)) (by decide) rfl (Nat.le_of_ble_eq_true rfl) ?_
  intro pp ee ss mm bw me cd ls hx hb hr hts hown hlocks hml hP hK hl
  have hl : lv_has ls 2 [(0, .ref pe), (1, .int p)] := hl
  have hf16 := hts (.fieldLink RX2 16 "OtherNames$People" "rows" "LOtherNames$Rows;") (by decide +kernel)
  have hin2 := (show ∀ w ∈ wsX20, w ∈ wsX2_isStruckOut by decide +kernel)
  refine lv_aload_n hx hb dX2_isStruckOut_0 rfl (lv_at hl 0 rfl) ?_
  refine va_get (D := D) (ci := 2) (v := .ref hP_) (C := RX2) (T := TX2) (N := 1) hx hb hts hin2 hown hK hP 0 rfl rfl 0 (by decide) hf16 (fun _ h9 => h9) rfl dX2_isStruckOut_1 ?_
  refine lv_iload_n hx hb dX2_isStruckOut_4 rfl (lv_at hl 1 rfl) ?_
  refine lv_iconst (v := 5) hx hb dX2_isStruckOut_5 (by decide) ?_
  refine rcV (As := [.int p, .int 5]) (rest := []) (ci := 3) ⟨hx, hb, hml, hown, hts⟩ (kX3_at l D cI cZ hP_ aP 24 6 np P p 5 (by first | assumption | omega)) (cwV 2 hts gX2_isStruckOut_X3_at rfl rfl rfl (by decide +kernel) ⟨Nat.le_of_ble_eq_true rfl, Nat.le_of_ble_eq_true rfl⟩) hK hP [1, 2] rfl rfl rfl rfl rfl hl.1 rfl (Nat.le_of_ble_eq_true rfl) ⟨Nat.zero_le _, Nat.zero_le _⟩ dX2_isStruckOut_6 ?_
  refine lv_iconst (v := 1) hx hb dX2_isStruckOut_9 (by decide) ?_
  refine lv_icmp_ne (tgt := 17) hx hb dX2_isStruckOut_10 (by decide) (fun c_10 => ?_) (fun c_10 => ?_)
  · skip
    refine lv_iconst (v := 0) hx hb dX2_isStruckOut_17 (by decide) ?_
    exact rd_zret hx hb hr hlocks dX2_isStruckOut_18 (by simp [bI, isSt, c_10])
  · skip
    refine lv_iconst (v := 1) hx hb dX2_isStruckOut_13 (by decide) ?_
    refine lv_goto (tgt := 18) hx hb dX2_isStruckOut_14 (by decide) ?_
    exact rd_zret hx hb hr hlocks dX2_isStruckOut_18 (by simp [bI, isSt, c_10])
set_option maxHeartbeats 4000000 in
set_option maxRecDepth 100000 in
theorem kX2_isHead (l : Launch) (D : va_G) (cI cZ : ClassId) (pe hP_ aP np : Nat) (P : Nat → Nat → Int32) (p : Int32) (hnp : np ≤ 24) : Met l yX2_isHead wsX2_isHead ({ frames := 3, cells := 0, slots := 0, locals := 65 } : Room) (RdP D [(cI, .int), (cZ, .boolean)] [.ref pe, .int p] [(pe, .inr (2, [.ref hP_])), (hP_, .inr (3, [.int (nI 24), .int (nI 6), .ref aP, .int (nI np)])), (aP, .inl (cI, 24 * 6, .inl (fl 6 P)))]) (QcRead (bI (isHd np P p))) 0 0 (fun _ => False) := by
  refine rd_of (cc := cX2_isHead) (maxL := 2) (ret := (some .boolean)) (by decide) rfl (Nat.le_of_ble_eq_true rfl) ?_
  intro pp ee ss mm bw me cd ls hx hb hr hts hown hlocks hml hP hK hl
  have hl : lv_has ls 2 [(0, .ref pe), (1, .int p)] := hl
  refine lv_aload_n hx hb dX2_isHead_0 rfl (lv_at hl 0 rfl) ?_
  refine lv_iload_n hx hb dX2_isHead_1 rfl (lv_at hl 1 rfl) ?_
  refine rcV (As := [.int p]) (rest := []) (ci := 2) ⟨hx, hb, hml, hown, hts⟩ (kX2_isThere l D cI cZ pe hP_ aP np P p (by first | assumption | omega)) (cwV 1 hts gX2_isHead_X2_isThere rfl rfl rfl (by decide +kernel) ⟨Nat.le_of_ble_eq_true rfl, Nat.le_of_ble_eq_true rfl⟩) hK hP [0, 1, 2] rfl rfl rfl rfl rfl hl.1 rfl (Nat.le_of_ble_eq_true rfl) ⟨Nat.zero_le _, Nat.zero_le _⟩ dX2_isHead_2 ?_
  refine lb_eq (tgt := 21) hx hb dX2_isHead_5 (by decide) (fun c_5 => ?_) (fun c_5 => ?_)
  · skip
    refine lv_iconst (v := 0) hx hb dX2_isHead_21 (by decide) ?_
    exact rd_zret hx hb hr hlocks dX2_isHead_22 (by simp [bI, isHd, c_5])
  · skip
    refine lv_aload_n hx hb dX2_isHead_8 rfl (lv_at hl 0 rfl) ?_
    refine lv_iload_n hx hb dX2_isHead_9 rfl (lv_at hl 1 rfl) ?_
    refine rcV (As := [.int p]) (rest := []) (ci := 2) ⟨hx, hb, hml, hown, hts⟩ (kX2_holderOf l D cI cZ pe hP_ aP np P p (by first | assumption | omega)) (cwV 1 hts gX2_isHead_X2_holderOf rfl rfl rfl (by decide +kernel) ⟨Nat.le_of_ble_eq_true rfl, Nat.le_of_ble_eq_true rfl⟩) hK hP [0, 1, 2] rfl rfl rfl rfl rfl hl.1 rfl (Nat.le_of_ble_eq_true rfl) ⟨Nat.zero_le _, Nat.zero_le _⟩ dX2_isHead_10 ?_
    refine lv_iconst (v := (-1)) hx hb dX2_isHead_13 (by decide) ?_
    refine lv_icmp_ne (tgt := 21) hx hb dX2_isHead_14 (by decide) (fun c_14 => ?_) (fun c_14 => ?_)
    · skip
      refine lv_iconst (v := 0) hx hb dX2_isHead_21 (by decide) ?_
      exact rd_zret hx hb hr hlocks dX2_isHead_22 (by simp [bI, isHd, c_5, c_14])
    · skip
      refine lv_iconst (v := 1) hx hb dX2_isHead_17 (by decide) ?_
      refine lv_goto (tgt := 22) hx hb dX2_isHead_18 (by decide) ?_
      exact rd_zret hx hb hr hlocks dX2_isHead_22 (by simp [bI, isHd, c_5, c_14])
set_option maxHeartbeats 4000000 in
set_option maxRecDepth 100000 in
theorem kX2_headOf (l : Launch) (D : va_G) (cI cZ : ClassId) (pe hP_ aP np : Nat) (P : Nat → Nat → Int32) (p : Nat) (hnp : np ≤ 24) (hw : HP np (P 4)) (hp : p < np) : Met l yX2_headOf wsX2_headOf ({ frames := 2, cells := 0, slots := 0, locals := 44 } : Room) (RdP D [(cI, .int), (cZ, .boolean)] [.ref pe, .int (nI p)] [(pe, .inr (2, [.ref hP_])), (hP_, .inr (3, [.int (nI 24), .int (nI 6), .ref aP, .int (nI np)])), (aP, .inl (cI, 24 * 6, .inl (fl 6 P)))]) (QcRead (nI (hd (P 4) p))) 0 0 (fun _ => False) := by
  refine rd_of (cc := cX2_headOf) (maxL := 4) (ret := (some .int)) (by decide) rfl (Nat.le_of_ble_eq_true rfl) ?_
  intro pp ee ss mm bw me cd ls hx hb hr hts hown hlocks hml hP hK hl
  have hl : lv_has ls 4 [(0, .ref pe), (1, .int ((nI p)))] := hl
  have hf16 := hts (.fieldLink RX2 16 "OtherNames$People" "rows" "LOtherNames$Rows;") (by decide +kernel)
  have hin2 := (show ∀ w ∈ wsX20, w ∈ wsX2_headOf by decide +kernel)
  refine lv_iload_n hx hb dX2_headOf_0 rfl (lv_at hl 1 rfl) ?_
  refine lv_istore_n (lv' := [(2, .int ((nI p))), (0, .ref pe), (1, .int ((nI p)))]) hx hb dX2_headOf_1 rfl hl (by decide) rfl (fun ls hl => ?_)
  refine lv_iconst (v := 0) hx hb dX2_headOf_2 (by decide) ?_
  refine lv_istore_n (lv' := [(3, .int 0), (2, .int ((nI p))), (0, .ref pe), (1, .int ((nI p)))]) hx hb dX2_headOf_3 rfl hl (by decide) rfl (fun ls hl => ?_)
  have loop : ∀ (k : Nat) (i q : Nat) (ls : Array Slot), i ≤ 24 → q < np → hdF (24 - i) (P 4) q = hd (P 4) p → 24 < i + k → lv_has ls 4 [(0, .ref pe), (1, .int ((nI p))), (2, .int (nI q)), (3, .int (nI i))] → W pp l ee ({ frames := 2, cells := 0, slots := 0, locals := 44 } : Room) ss mm ([.ref pe, .int (nI p)] : List Value).toArray bw me cd ss.heap [] 0 0 (MQ bw (QcRead (nI (hd (P 4) p))) ([.ref pe, .int (nI p)] : List Value).toArray ss 0 0 (fun _ => False)) (F0 mm 4 ls []) := by
    intro k
    induction k with
    | zero => intro i q ls hi hq he hk; exact absurd hk (by omega)
    | succ k ih =>
      intro i q ls hi hq he hk hl
      refine lv_iload_n hx hb dX2_headOf_4 rfl (lv_at hl 3 rfl) ?_
      refine lv_bipush (v := 24) hx hb dX2_headOf_5 (by decide) ?_
      refine lv_icmp_ge (tgt := 39) hx hb dX2_headOf_7 (by decide) (fun c_7 => ?_) (fun c_7 => ?_)
      · skip
        have hi2 : i = 24 := Nat.le_antisymm hi (lit_T c_7 24 rfl (by omega) (by omega))
        refine lv_iload_n hx hb dX2_headOf_39 rfl (lv_at hl 2 rfl) ?_
        exact rd_iret hx hb hr hlocks dX2_headOf_40 (by rw [← he, hi2]; rfl)
      · skip
        have hi2 : i < 24 := lit_F c_7 24 rfl (by omega) (by omega)
        refine lv_aload_n hx hb dX2_headOf_10 rfl (lv_at hl 0 rfl) ?_
        refine va_get (D := D) (ci := 2) (v := .ref hP_) (C := RX2) (T := TX2) (N := 1) hx hb hts hin2 hown hK hP 0 rfl rfl 0 (by decide) hf16 (fun _ h9 => h9) rfl dX2_headOf_11 ?_
        refine lv_iload_n hx hb dX2_headOf_14 rfl (lv_at hl 2 rfl) ?_
        refine lv_iconst (v := 4) hx hb dX2_headOf_15 (by decide) ?_
        refine rcV (As := [.int (nI q), .int 4]) (rest := []) (ci := 3) ⟨hx, hb, hml, hown, hts⟩ (kX3_at l D cI cZ hP_ aP 24 6 np P (nI q) 4 (by first | assumption | omega)) (cwV 2 hts gX2_headOf_X3_at rfl rfl rfl (by decide +kernel) ⟨Nat.le_of_ble_eq_true rfl, Nat.le_of_ble_eq_true rfl⟩) hK hP [1, 2] rfl rfl rfl rfl rfl hl.1 rfl (Nat.le_of_ble_eq_true rfl) ⟨Nat.zero_le _, Nat.zero_le _⟩ dX2_headOf_16 ?_
        rw [show tat np 6 P (nI q) 4 = (P 4 q) from tat_nI (c := 4) (by omega) (by omega) hq (by omega)]
        refine lv_iconst (v := (-1)) hx hb dX2_headOf_19 (by decide) ?_
        refine lv_icmp_eq (tgt := 39) hx hb dX2_headOf_20 (by decide) (fun c_20 => ?_) (fun c_20 => ?_)
        · skip
          refine lv_iload_n hx hb dX2_headOf_39 rfl (lv_at hl 2 rfl) ?_
          exact rd_iret hx hb hr hlocks dX2_headOf_40 (by rw [← he, hdF_root c_20])
        · skip
          obtain ⟨q2, hq2, e2⟩ := (hw.1 q hq).resolve_left c_20
          refine lv_aload_n hx hb dX2_headOf_23 rfl (lv_at hl 0 rfl) ?_
          refine va_get (D := D) (ci := 2) (v := .ref hP_) (C := RX2) (T := TX2) (N := 1) hx hb hts hin2 hown hK hP 0 rfl rfl 0 (by decide) hf16 (fun _ h9 => h9) rfl dX2_headOf_24 ?_
          refine lv_iload_n hx hb dX2_headOf_27 rfl (lv_at hl 2 rfl) ?_
          refine lv_iconst (v := 4) hx hb dX2_headOf_28 (by decide) ?_
          refine rcV (As := [.int (nI q), .int 4]) (rest := []) (ci := 3) ⟨hx, hb, hml, hown, hts⟩ (kX3_at l D cI cZ hP_ aP 24 6 np P (nI q) 4 (by first | assumption | omega)) (cwV 2 hts gX2_headOf_X3_at rfl rfl rfl (by decide +kernel) ⟨Nat.le_of_ble_eq_true rfl, Nat.le_of_ble_eq_true rfl⟩) hK hP [1, 2] rfl rfl rfl rfl rfl hl.1 rfl (Nat.le_of_ble_eq_true rfl) ⟨Nat.zero_le _, Nat.zero_le _⟩ dX2_headOf_29 ?_
          rw [show tat np 6 P (nI q) 4 = nI q2 from (tat_nI (c := 4) (by omega) (by omega) hq (by omega)).trans e2]
          refine lv_istore_n (lv' := [(2, .int (nI q2)), (0, .ref pe), (1, .int ((nI p))), (3, .int (nI i))]) hx hb dX2_headOf_32 rfl hl (by decide) rfl (fun ls hl => ?_)
          refine lv_iinc (v := (nI i) + 1) (lv' := [(3, .int (((nI i) + 1))), (2, .int (nI q2)), (0, .ref pe), (1, .int ((nI p)))]) hx hb dX2_headOf_33 hl (k := 3) rfl rfl (by decide) rfl (fun ls hl => ?_)
          refine lv_goto (tgt := 4) hx hb dX2_headOf_36 (by decide) ?_
          rw [nI_1 i] at hl
          exact ih (i + 1) q2 ls (by omega) hq2 (by rw [← he, show 24 - i = (24 - (i + 1)) + 1 by omega, hdF_step e2 c_20 (by omega)]) (by omega) (lv_sub hl [2, 3, 1, 0] rfl)
  exact loop 25 0 p ls (by omega) hp rfl (by omega) (lv_sub hl [2, 3, 1, 0] rfl)
set_option maxHeartbeats 4000000 in
set_option maxRecDepth 100000 in
theorem kX2_areAlike (l : Launch) (D : va_G) (cI cZ : ClassId) (pe hP_ aP np : Nat) (P : Nat → Nat → Int32) (p : Int32) (q : Int32) (set : Int32) (hnp : np ≤ 24) : Met l yX2_areAlike wsX2_areAlike ({ frames := 3, cells := 0, slots := 0, locals := 66 } : Room) (RdP D [(cI, .int), (cZ, .boolean)] [.ref pe, .int p, .int q, .int set] [(pe, .inr (2, [.ref hP_])), (hP_, .inr (3, [.int (nI 24), .int (nI 6), .ref aP, .int (nI np)])), (aP, .inl (cI, 24 * 6, .inl (fl 6 P)))]) (QcRead (bI (alls (alB np P p q set) 4))) 0 0 (fun _ => False) := by
  refine rd_of (cc := cX2_areAlike) (maxL := 5) (ret := (some .boolean)) (by decide) rfl (Nat.le_of_ble_eq_true rfl) ?_
  intro pp ee ss mm bw me cd ls hx hb hr hts hown hlocks hml hP hK hl
  have hl : lv_has ls 5 [(0, .ref pe), (1, .int p), (2, .int q), (3, .int set)] := hl
  refine lv_iconst (v := 0) hx hb dX2_areAlike_0 (by decide) ?_
  refine lv_istore (lv' := [(4, .int 0), (0, .ref pe), (1, .int p), (2, .int q), (3, .int set)]) hx hb dX2_areAlike_1 hl (by decide) rfl (fun ls hl => ?_)
  have loop : ∀ (k : Nat) (i : Nat) (ls : Array Slot), i ≤ 4 → alls (alB np P p q set) i = true → 4 < i + k → lv_has ls 5 [(0, .ref pe), (1, .int p), (2, .int q), (3, .int set), (4, .int (nI i))] → W pp l ee ({ frames := 3, cells := 0, slots := 0, locals := 66 } : Room) ss mm ([.ref pe, .int p, .int q, .int set] : List Value).toArray bw me cd ss.heap [] 0 0 (MQ bw (QcRead (bI (alls (alB np P p q set) 4))) ([.ref pe, .int p, .int q, .int set] : List Value).toArray ss 0 0 (fun _ => False)) (F0 mm 3 ls []) := by
    intro k
    induction k with
    | zero => intro i ls hi he hk; exact absurd hk (by omega)
    | succ k ih =>
      intro i ls hi he hk hl
      refine lv_iload hx hb dX2_areAlike_3 (lv_at hl 4 rfl) ?_
      refine lv_iconst (v := 4) hx hb dX2_areAlike_5 (by decide) ?_
      refine lv_icmp_ge (tgt := 43) hx hb dX2_areAlike_6 (by decide) (fun c_6 => ?_) (fun c_6 => ?_)
      · skip
        have hi2 : i = 4 := Nat.le_antisymm hi (lit_T c_6 4 rfl (by omega) (by omega))
        refine lv_iconst (v := 1) hx hb dX2_areAlike_43 (by decide) ?_
        exact rd_zret hx hb hr hlocks dX2_areAlike_44 (by rw [hi2] at he; rw [he]; rfl)
      · skip
        have hi2 : i < 4 := lit_F c_6 4 rfl (by omega) (by omega)
        refine lv_iload_n hx hb dX2_areAlike_9 rfl (lv_at hl 3 rfl) ?_
        refine lv_iload hx hb dX2_areAlike_10 (lv_at hl 4 rfl) ?_
        refine rcS (As := [.int set, .int (nI i)]) (rest := []) ⟨hx, hb, hml, hown, hts⟩ (kX2_isAmong l D cI cZ set (nI i)) (va_cwS 2 hts gX2_areAlike_X2_isAmong rfl rfl rfl (by decide +kernel) ⟨Nat.le_of_ble_eq_true rfl, Nat.le_of_ble_eq_true rfl⟩) hK hP [] rfl rfl hl.1 rfl (Nat.le_of_ble_eq_true rfl) ⟨Nat.zero_le _, Nat.zero_le _⟩ dX2_areAlike_12 ?_
        refine lb_eq (tgt := 37) hx hb dX2_areAlike_15 (by decide) (fun c_15 => ?_) (fun c_15 => ?_)
        · skip
          refine lv_iinc (v := (nI i) + 1) (lv' := [(4, .int (((nI i) + 1))), (0, .ref pe), (1, .int p), (2, .int q), (3, .int set)]) hx hb dX2_areAlike_37 hl (k := 4) rfl rfl (by decide) rfl (fun ls hl => ?_)
          refine lv_goto (tgt := 3) hx hb dX2_areAlike_40 (by decide) ?_
          rw [nI_1 i] at hl
          exact ih (i + 1) ls (by omega) (by simp [alls, alB, he, c_6, c_15]) (by omega) (lv_sub hl [1, 2, 3, 4, 0] rfl)
        · skip
          refine lv_aload_n hx hb dX2_areAlike_18 rfl (lv_at hl 0 rfl) ?_
          refine lv_iload_n hx hb dX2_areAlike_19 rfl (lv_at hl 1 rfl) ?_
          refine lv_iload hx hb dX2_areAlike_20 (lv_at hl 4 rfl) ?_
          refine rcV (As := [.int p, .int (nI i)]) (rest := []) (ci := 2) ⟨hx, hb, hml, hown, hts⟩ (kX2_markOf l D cI cZ pe hP_ aP np P p (nI i) (by first | assumption | omega)) (cwV 2 hts gX2_areAlike_X2_markOf rfl rfl rfl (by decide +kernel) ⟨Nat.le_of_ble_eq_true rfl, Nat.le_of_ble_eq_true rfl⟩) hK hP [0, 1, 2] rfl rfl rfl rfl rfl hl.1 rfl (Nat.le_of_ble_eq_true rfl) ⟨Nat.zero_le _, Nat.zero_le _⟩ dX2_areAlike_22 ?_
          refine lv_aload_n hx hb dX2_areAlike_25 rfl (lv_at hl 0 rfl) ?_
          refine lv_iload_n hx hb dX2_areAlike_26 rfl (lv_at hl 2 rfl) ?_
          refine lv_iload hx hb dX2_areAlike_27 (lv_at hl 4 rfl) ?_
          refine rcV (As := [.int q, .int (nI i)]) (rest := [.int (mkOf np P p (nI i))]) (ci := 2) ⟨hx, hb, hml, hown, hts⟩ (kX2_markOf l D cI cZ pe hP_ aP np P q (nI i) (by first | assumption | omega)) (cwV 2 hts gX2_areAlike_X2_markOf rfl rfl rfl (by decide +kernel) ⟨Nat.le_of_ble_eq_true rfl, Nat.le_of_ble_eq_true rfl⟩) hK hP [0, 1, 2] rfl rfl rfl rfl rfl hl.1 rfl (Nat.le_of_ble_eq_true rfl) ⟨Nat.zero_le _, Nat.zero_le _⟩ dX2_areAlike_29 ?_
          refine lv_icmp_eq (tgt := 37) hx hb dX2_areAlike_32 (by decide) (fun c_32 => ?_) (fun c_32 => ?_)
          · skip
            refine lv_iinc (v := (nI i) + 1) (lv' := [(4, .int (((nI i) + 1))), (0, .ref pe), (1, .int p), (2, .int q), (3, .int set)]) hx hb dX2_areAlike_37 hl (k := 4) rfl rfl (by decide) rfl (fun ls hl => ?_)
            refine lv_goto (tgt := 3) hx hb dX2_areAlike_40 (by decide) ?_
            rw [nI_1 i] at hl
            exact ih (i + 1) ls (by omega) (by simp [alls, alB, he, c_6, c_15, c_32]) (by omega) (lv_sub hl [1, 2, 3, 4, 0] rfl)
          · skip
            refine lv_iconst (v := 0) hx hb dX2_areAlike_35 (by decide) ?_
            exact rd_zret hx hb hr hlocks dX2_areAlike_36 (by rw [alls_no (i := i) (by simp [alB, c_15, c_32]) hi2]; rfl)
  exact loop 5 0 ls (by omega) rfl (by omega) (lv_sub hl [1, 2, 3, 4, 0] rfl)
set_option maxHeartbeats 4000000 in
set_option maxRecDepth 100000 in
theorem kX2_groupSize (l : Launch) (D : va_G) (cI cZ : ClassId) (pe hP_ aP np : Nat) (P : Nat → Nat → Int32) (kn : Int32) (p : Int32) (set : Int32) (hnp : np ≤ 24) : Met l yX2_groupSize wsX2_groupSize ({ frames := 4, cells := 0, slots := 0, locals := 90 } : Room) (RdP D [(cI, .int), (cZ, .boolean)] [.ref pe, .int kn, .int p, .int set] [(pe, .inr (2, [.ref hP_])), (hP_, .inr (3, [.int (nI 24), .int (nI 6), .ref aP, .int (nI np)])), (aP, .inl (cI, 24 * 6, .inl (fl 6 P)))]) (QcRead (if isAm kn p = true then nI (ct (fun q => isAm kn (nI q) && alls (alB np P p (nI q) set) 4) 24) else 0)) 0 0 (fun _ => False) := by
  refine rd_of (cc := cX2_groupSize) (maxL := 6) (ret := (some .int)) (by decide) rfl (Nat.le_of_ble_eq_true rfl) ?_
  intro pp ee ss mm bw me cd ls hx hb hr hts hown hlocks hml hP hK hl
  have hl : lv_has ls 6 [(0, .ref pe), (1, .int kn), (2, .int p), (3, .int set)] := hl
  refine lv_iload_n hx hb dX2_groupSize_0 rfl (lv_at hl 1 rfl) ?_
  refine lv_iload_n hx hb dX2_groupSize_1 rfl (lv_at hl 2 rfl) ?_
  refine rcS (As := [.int kn, .int p]) (rest := []) ⟨hx, hb, hml, hown, hts⟩ (kX2_isAmong l D cI cZ kn p) (va_cwS 2 hts gX2_groupSize_X2_isAmong rfl rfl rfl (by decide +kernel) ⟨Nat.le_of_ble_eq_true rfl, Nat.le_of_ble_eq_true rfl⟩) hK hP [] rfl rfl hl.1 rfl (Nat.le_of_ble_eq_true rfl) ⟨Nat.zero_le _, Nat.zero_le _⟩ dX2_groupSize_2 ?_
  refine lb_ne (tgt := 10) hx hb dX2_groupSize_5 (by decide) (fun c_5 => ?_) (fun c_5 => ?_)
  · skip
    refine lv_iconst (v := 0) hx hb dX2_groupSize_10 (by decide) ?_
    refine lv_istore (lv' := [(4, .int 0), (0, .ref pe), (1, .int kn), (2, .int p), (3, .int set)]) hx hb dX2_groupSize_11 hl (by decide) rfl (fun ls hl => ?_)
    refine lv_iconst (v := 0) hx hb dX2_groupSize_13 (by decide) ?_
    refine lv_istore (lv' := [(5, .int 0), (4, .int 0), (0, .ref pe), (1, .int kn), (2, .int p), (3, .int set)]) hx hb dX2_groupSize_14 hl (by decide) rfl (fun ls hl => ?_)
    have loop : ∀ (k : Nat) (i : Nat) (ls : Array Slot), i ≤ 24 → 24 < i + k → lv_has ls 6 [(0, .ref pe), (1, .int kn), (2, .int p), (3, .int set), (4, .int (nI (ct (fun q => isAm kn (nI q) && alls (alB np P p (nI q) set) 4) i))), (5, .int (nI i))] → W pp l ee ({ frames := 4, cells := 0, slots := 0, locals := 90 } : Room) ss mm ([.ref pe, .int kn, .int p, .int set] : List Value).toArray bw me cd ss.heap [] 0 0 (MQ bw (QcRead (if isAm kn p = true then nI (ct (fun q => isAm kn (nI q) && alls (alB np P p (nI q) set) 4) 24) else 0)) ([.ref pe, .int kn, .int p, .int set] : List Value).toArray ss 0 0 (fun _ => False)) (F0 mm 16 ls []) := by
      intro k
      induction k with
      | zero => intro i ls hi hk; exact absurd hk (by omega)
      | succ k ih =>
        intro i ls hi hk hl
        refine lv_iload hx hb dX2_groupSize_16 (lv_at hl 5 rfl) ?_
        refine lv_bipush (v := 24) hx hb dX2_groupSize_18 (by decide) ?_
        refine lv_icmp_ge (tgt := 52) hx hb dX2_groupSize_20 (by decide) (fun c_20 => ?_) (fun c_20 => ?_)
        · skip
          have hi2 : i = 24 := Nat.le_antisymm hi (lit_T c_20 24 rfl (by omega) (by omega))
          refine lv_iload hx hb dX2_groupSize_52 (lv_at hl 4 rfl) ?_
          exact rd_iret hx hb hr hlocks dX2_groupSize_54 (by rw [hi2]; simp [c_5])
        · skip
          have hi2 : i < 24 := lit_F c_20 24 rfl (by omega) (by omega)
          refine lv_iload_n hx hb dX2_groupSize_23 rfl (lv_at hl 1 rfl) ?_
          refine lv_iload hx hb dX2_groupSize_24 (lv_at hl 5 rfl) ?_
          refine rcS (As := [.int kn, .int (nI i)]) (rest := []) ⟨hx, hb, hml, hown, hts⟩ (kX2_isAmong l D cI cZ kn (nI i)) (va_cwS 2 hts gX2_groupSize_X2_isAmong rfl rfl rfl (by decide +kernel) ⟨Nat.le_of_ble_eq_true rfl, Nat.le_of_ble_eq_true rfl⟩) hK hP [] rfl rfl hl.1 rfl (Nat.le_of_ble_eq_true rfl) ⟨Nat.zero_le _, Nat.zero_le _⟩ dX2_groupSize_26 ?_
          refine lb_eq (tgt := 46) hx hb dX2_groupSize_29 (by decide) (fun c_29 => ?_) (fun c_29 => ?_)
          · skip
            refine lv_iinc (v := (nI i) + 1) (lv' := [(5, .int (((nI i) + 1))), (0, .ref pe), (1, .int kn), (2, .int p), (3, .int set), (4, .int (nI (ct (fun q => isAm kn (nI q) && alls (alB np P p (nI q) set) 4) i)))]) hx hb dX2_groupSize_46 hl (k := 5) rfl rfl (by decide) rfl (fun ls hl => ?_)
            refine lv_goto (tgt := 16) hx hb dX2_groupSize_49 (by decide) ?_
            rw [nI_1 i] at hl
            rw [show nI (ct (fun q => isAm kn (nI q) && alls (alB np P p (nI q) set) 4) i) = nI (ct (fun q => isAm kn (nI q) && alls (alB np P p (nI q) set) 4) (i + 1)) by first | exact ct_yes (by simp [c_5, c_20, c_29]) | exact ct_no (by simp [c_5, c_20, c_29])] at hl
            exact ih (i + 1) ls (by omega) (by omega) (lv_sub hl [1, 2, 3, 4, 5, 0] rfl)
          · skip
            refine lv_aload_n hx hb dX2_groupSize_32 rfl (lv_at hl 0 rfl) ?_
            refine lv_iload_n hx hb dX2_groupSize_33 rfl (lv_at hl 2 rfl) ?_
            refine lv_iload hx hb dX2_groupSize_34 (lv_at hl 5 rfl) ?_
            refine lv_iload_n hx hb dX2_groupSize_36 rfl (lv_at hl 3 rfl) ?_
            refine rcV (As := [.int p, .int (nI i), .int set]) (rest := []) (ci := 2) ⟨hx, hb, hml, hown, hts⟩ (kX2_areAlike l D cI cZ pe hP_ aP np P p (nI i) set (by first | assumption | omega)) (cwV 3 hts gX2_groupSize_X2_areAlike rfl rfl rfl (by decide +kernel) ⟨Nat.le_of_ble_eq_true rfl, Nat.le_of_ble_eq_true rfl⟩) hK hP [0, 1, 2] rfl rfl rfl rfl rfl hl.1 rfl (Nat.le_of_ble_eq_true rfl) ⟨Nat.zero_le _, Nat.zero_le _⟩ dX2_groupSize_37 ?_
            refine lb_eq (tgt := 46) hx hb dX2_groupSize_40 (by decide) (fun c_40 => ?_) (fun c_40 => ?_)
            · skip
              refine lv_iinc (v := (nI i) + 1) (lv' := [(5, .int (((nI i) + 1))), (0, .ref pe), (1, .int kn), (2, .int p), (3, .int set), (4, .int (nI (ct (fun q => isAm kn (nI q) && alls (alB np P p (nI q) set) 4) i)))]) hx hb dX2_groupSize_46 hl (k := 5) rfl rfl (by decide) rfl (fun ls hl => ?_)
              refine lv_goto (tgt := 16) hx hb dX2_groupSize_49 (by decide) ?_
              rw [nI_1 i] at hl
              rw [show nI (ct (fun q => isAm kn (nI q) && alls (alB np P p (nI q) set) 4) i) = nI (ct (fun q => isAm kn (nI q) && alls (alB np P p (nI q) set) 4) (i + 1)) by first | exact ct_yes (by simp [c_5, c_20, c_29, c_40]) | exact ct_no (by simp [c_5, c_20, c_29, c_40])] at hl
              exact ih (i + 1) ls (by omega) (by omega) (lv_sub hl [1, 2, 3, 4, 5, 0] rfl)
            · skip
              refine lv_iinc (v := (nI (ct (fun q => isAm kn (nI q) && alls (alB np P p (nI q) set) 4) i)) + 1) (lv' := [(4, .int (((nI (ct (fun q => isAm kn (nI q) && alls (alB np P p (nI q) set) 4) i)) + 1))), (0, .ref pe), (1, .int kn), (2, .int p), (3, .int set), (5, .int (nI i))]) hx hb dX2_groupSize_43 hl (k := 4) rfl rfl (by decide) rfl (fun ls hl => ?_)
              refine lv_iinc (v := (nI i) + 1) (lv' := [(5, .int (((nI i) + 1))), (4, .int (((nI (ct (fun q => isAm kn (nI q) && alls (alB np P p (nI q) set) 4) i)) + 1))), (0, .ref pe), (1, .int kn), (2, .int p), (3, .int set)]) hx hb dX2_groupSize_46 hl (k := 5) rfl rfl (by decide) rfl (fun ls hl => ?_)
              refine lv_goto (tgt := 16) hx hb dX2_groupSize_49 (by decide) ?_
              rw [nI_1 i] at hl
              rw [show ((nI (ct (fun q => isAm kn (nI q) && alls (alB np P p (nI q) set) 4) i)) + 1) = nI (ct (fun q => isAm kn (nI q) && alls (alB np P p (nI q) set) 4) (i + 1)) by first | exact ct_yes (by simp [c_5, c_20, c_29, c_40]) | exact ct_no (by simp [c_5, c_20, c_29, c_40])] at hl
              exact ih (i + 1) ls (by omega) (by omega) (lv_sub hl [2, 3, 4, 5, 1, 0] rfl)
    exact loop 25 0 ls (by omega) (by omega) (lv_sub hl [2, 3, 4, 5, 1, 0] rfl)
  · skip
    refine lv_iconst (v := 0) hx hb dX2_groupSize_8 (by decide) ?_
    exact rd_iret hx hb hr hlocks dX2_groupSize_9 (by simp [c_5])
set_option maxHeartbeats 4000000 in
set_option maxRecDepth 100000 in
theorem kX2_countHaving (l : Launch) (D : va_G) (cI cZ : ClassId) (pe hP_ aP np : Nat) (P : Nat → Nat → Int32) (kn : Int32) (m : Int32) (n : Int32) (hnp : np ≤ 24) : Met l yX2_countHaving wsX2_countHaving ({ frames := 3, cells := 0, slots := 0, locals := 66 } : Room) (RdP D [(cI, .int), (cZ, .boolean)] [.ref pe, .int kn, .int m, .int n] [(pe, .inr (2, [.ref hP_])), (hP_, .inr (3, [.int (nI 24), .int (nI 6), .ref aP, .int (nI np)])), (aP, .inl (cI, 24 * 6, .inl (fl 6 P)))]) (QcRead (nI (ct (fun p => isAm kn (nI p) && decide (mkOf np P (nI p) m = n)) 24))) 0 0 (fun _ => False) := by
  refine rd_of (cc := cX2_countHaving) (maxL := 6) (ret := (some .int)) (by decide) rfl (Nat.le_of_ble_eq_true rfl) ?_
  intro pp ee ss mm bw me cd ls hx hb hr hts hown hlocks hml hP hK hl
  have hl : lv_has ls 6 [(0, .ref pe), (1, .int kn), (2, .int m), (3, .int n)] := hl
  refine lv_iconst (v := 0) hx hb dX2_countHaving_0 (by decide) ?_
  refine lv_istore (lv' := [(4, .int 0), (0, .ref pe), (1, .int kn), (2, .int m), (3, .int n)]) hx hb dX2_countHaving_1 hl (by decide) rfl (fun ls hl => ?_)
  refine lv_iconst (v := 0) hx hb dX2_countHaving_3 (by decide) ?_
  refine lv_istore (lv' := [(5, .int 0), (4, .int 0), (0, .ref pe), (1, .int kn), (2, .int m), (3, .int n)]) hx hb dX2_countHaving_4 hl (by decide) rfl (fun ls hl => ?_)
  have loop : ∀ (k : Nat) (i : Nat) (ls : Array Slot), i ≤ 24 → 24 < i + k → lv_has ls 6 [(0, .ref pe), (1, .int kn), (2, .int m), (3, .int n), (4, .int (nI (ct (fun p => isAm kn (nI p) && decide (mkOf np P (nI p) m = n)) i))), (5, .int (nI i))] → W pp l ee ({ frames := 3, cells := 0, slots := 0, locals := 66 } : Room) ss mm ([.ref pe, .int kn, .int m, .int n] : List Value).toArray bw me cd ss.heap [] 0 0 (MQ bw (QcRead (nI (ct (fun p => isAm kn (nI p) && decide (mkOf np P (nI p) m = n)) 24))) ([.ref pe, .int kn, .int m, .int n] : List Value).toArray ss 0 0 (fun _ => False)) (F0 mm 6 ls []) := by
    intro k
    induction k with
    | zero => intro i ls hi hk; exact absurd hk (by omega)
    | succ k ih =>
      intro i ls hi hk hl
      refine lv_iload hx hb dX2_countHaving_6 (lv_at hl 5 rfl) ?_
      refine lv_bipush (v := 24) hx hb dX2_countHaving_8 (by decide) ?_
      refine lv_icmp_ge (tgt := 42) hx hb dX2_countHaving_10 (by decide) (fun c_10 => ?_) (fun c_10 => ?_)
      · skip
        have hi2 : i = 24 := Nat.le_antisymm hi (lit_T c_10 24 rfl (by omega) (by omega))
        refine lv_iload hx hb dX2_countHaving_42 (lv_at hl 4 rfl) ?_
        exact rd_iret hx hb hr hlocks dX2_countHaving_44 (by rw [hi2])
      · skip
        have hi2 : i < 24 := lit_F c_10 24 rfl (by omega) (by omega)
        refine lv_iload_n hx hb dX2_countHaving_13 rfl (lv_at hl 1 rfl) ?_
        refine lv_iload hx hb dX2_countHaving_14 (lv_at hl 5 rfl) ?_
        refine rcS (As := [.int kn, .int (nI i)]) (rest := []) ⟨hx, hb, hml, hown, hts⟩ (kX2_isAmong l D cI cZ kn (nI i)) (va_cwS 2 hts gX2_countHaving_X2_isAmong rfl rfl rfl (by decide +kernel) ⟨Nat.le_of_ble_eq_true rfl, Nat.le_of_ble_eq_true rfl⟩) hK hP [] rfl rfl hl.1 rfl (Nat.le_of_ble_eq_true rfl) ⟨Nat.zero_le _, Nat.zero_le _⟩ dX2_countHaving_16 ?_
        refine lb_eq (tgt := 36) hx hb dX2_countHaving_19 (by decide) (fun c_19 => ?_) (fun c_19 => ?_)
        · skip
          refine lv_iinc (v := (nI i) + 1) (lv' := [(5, .int (((nI i) + 1))), (0, .ref pe), (1, .int kn), (2, .int m), (3, .int n), (4, .int (nI (ct (fun p => isAm kn (nI p) && decide (mkOf np P (nI p) m = n)) i)))]) hx hb dX2_countHaving_36 hl (k := 5) rfl rfl (by decide) rfl (fun ls hl => ?_)
          refine lv_goto (tgt := 6) hx hb dX2_countHaving_39 (by decide) ?_
          rw [nI_1 i] at hl
          rw [show nI (ct (fun p => isAm kn (nI p) && decide (mkOf np P (nI p) m = n)) i) = nI (ct (fun p => isAm kn (nI p) && decide (mkOf np P (nI p) m = n)) (i + 1)) by first | exact ct_yes (by simp [c_10, c_19]) | exact ct_no (by simp [c_10, c_19])] at hl
          exact ih (i + 1) ls (by omega) (by omega) (lv_sub hl [1, 2, 3, 4, 5, 0] rfl)
        · skip
          refine lv_aload_n hx hb dX2_countHaving_22 rfl (lv_at hl 0 rfl) ?_
          refine lv_iload hx hb dX2_countHaving_23 (lv_at hl 5 rfl) ?_
          refine lv_iload_n hx hb dX2_countHaving_25 rfl (lv_at hl 2 rfl) ?_
          refine rcV (As := [.int (nI i), .int m]) (rest := []) (ci := 2) ⟨hx, hb, hml, hown, hts⟩ (kX2_markOf l D cI cZ pe hP_ aP np P (nI i) m (by first | assumption | omega)) (cwV 2 hts gX2_countHaving_X2_markOf rfl rfl rfl (by decide +kernel) ⟨Nat.le_of_ble_eq_true rfl, Nat.le_of_ble_eq_true rfl⟩) hK hP [0, 1, 2] rfl rfl rfl rfl rfl hl.1 rfl (Nat.le_of_ble_eq_true rfl) ⟨Nat.zero_le _, Nat.zero_le _⟩ dX2_countHaving_26 ?_
          refine lv_iload_n hx hb dX2_countHaving_29 rfl (lv_at hl 3 rfl) ?_
          refine lv_icmp_ne (tgt := 36) hx hb dX2_countHaving_30 (by decide) (fun c_30 => ?_) (fun c_30 => ?_)
          · skip
            refine lv_iinc (v := (nI i) + 1) (lv' := [(5, .int (((nI i) + 1))), (0, .ref pe), (1, .int kn), (2, .int m), (3, .int n), (4, .int (nI (ct (fun p => isAm kn (nI p) && decide (mkOf np P (nI p) m = n)) i)))]) hx hb dX2_countHaving_36 hl (k := 5) rfl rfl (by decide) rfl (fun ls hl => ?_)
            refine lv_goto (tgt := 6) hx hb dX2_countHaving_39 (by decide) ?_
            rw [nI_1 i] at hl
            rw [show nI (ct (fun p => isAm kn (nI p) && decide (mkOf np P (nI p) m = n)) i) = nI (ct (fun p => isAm kn (nI p) && decide (mkOf np P (nI p) m = n)) (i + 1)) by first | exact ct_yes (by simp [c_10, c_19, c_30]) | exact ct_no (by simp [c_10, c_19, c_30])] at hl
            exact ih (i + 1) ls (by omega) (by omega) (lv_sub hl [1, 2, 3, 4, 5, 0] rfl)
          · skip
            refine lv_iinc (v := (nI (ct (fun p => isAm kn (nI p) && decide (mkOf np P (nI p) m = n)) i)) + 1) (lv' := [(4, .int (((nI (ct (fun p => isAm kn (nI p) && decide (mkOf np P (nI p) m = n)) i)) + 1))), (0, .ref pe), (1, .int kn), (2, .int m), (3, .int n), (5, .int (nI i))]) hx hb dX2_countHaving_33 hl (k := 4) rfl rfl (by decide) rfl (fun ls hl => ?_)
            refine lv_iinc (v := (nI i) + 1) (lv' := [(5, .int (((nI i) + 1))), (4, .int (((nI (ct (fun p => isAm kn (nI p) && decide (mkOf np P (nI p) m = n)) i)) + 1))), (0, .ref pe), (1, .int kn), (2, .int m), (3, .int n)]) hx hb dX2_countHaving_36 hl (k := 5) rfl rfl (by decide) rfl (fun ls hl => ?_)
            refine lv_goto (tgt := 6) hx hb dX2_countHaving_39 (by decide) ?_
            rw [nI_1 i] at hl
            rw [show ((nI (ct (fun p => isAm kn (nI p) && decide (mkOf np P (nI p) m = n)) i)) + 1) = nI (ct (fun p => isAm kn (nI p) && decide (mkOf np P (nI p) m = n)) (i + 1)) by first | exact ct_yes (by simp [c_10, c_19, c_30]) | exact ct_no (by simp [c_10, c_19, c_30])] at hl
            exact ih (i + 1) ls (by omega) (by omega) (lv_sub hl [2, 3, 4, 5, 1, 0] rfl)
  exact loop 25 0 ls (by omega) (by omega) (lv_sub hl [2, 3, 4, 5, 1, 0] rfl)
end
section
set_option maxHeartbeats 4000000 in
set_option maxRecDepth 100000 in
theorem kX2_add (l : Launch) (D : va_G) (cI cZ : ClassId) (pe hP_ aP np : Nat) (P : Nat → Nat → Int32) (a : Int32) (b : Int32) (c : Int32) (d : Int32) (hnp : np ≤ 24) : Met l yX2_add wsX2_add ({ frames := 2, cells := 0, slots := 0, locals := 45 } : Room) (MuP D [(cI, .int), (cZ, .boolean)] [.ref pe, .int a, .int b, .int c, .int d] [(pe, .inr (2, [.ref hP_])), (hP_, .inr (3, [.int (nI 24), .int (nI 6), .ref aP, .int (nI np)])), (aP, .inl (cI, 24 * 6, .inl (fl 6 P)))]) (QM D (some (.int (if okM a b c d = true then arow 24 np else -1))) [(pe, .inr (2, [.ref hP_])), (hP_, .inr (3, [.int (nI 24), .int (nI 6), .ref aP, .int (nI np)])), (aP, .inl (cI, 24 * 6, .inl (fl 6 P)))] [(pe, .inr (2, [.ref hP_])), (hP_, .inr (3, [.int (nI 24), .int (nI 6), .ref aP, .int (nI (if okM a b c d = true then adn 24 np else np))])), (aP, .inl (cI, 24 * 6, .inl (fl 6 (if okM a b c d = true then paddT np P a b c d else P))))]) 0 0 (adr [(pe, .inr (2, [.ref hP_])), (hP_, .inr (3, [.int (nI 24), .int (nI 6), .ref aP, .int (nI np)])), (aP, .inl (cI, 24 * 6, .inl (fl 6 P)))]) := by
  refine mu_of (cc := cX2_add) (maxL := 6) (ret := (some .int)) (by decide) rfl (Nat.le_of_ble_eq_true rfl) ?_
  intro pp ee ss mm bw me cd ls hx hb hr hts hown hlocks hml hK hl H locs hP hD hS
  have hl : lv_has ls 6 [(0, .ref pe), (1, .int a), (2, .int b), (3, .int c), (4, .int d)] := hl
  have hf16 := hts (.fieldLink RX2 16 "OtherNames$People" "rows" "LOtherNames$Rows;") (by decide +kernel)
  have hin2 := (show ∀ w ∈ wsX20, w ∈ wsX2_add by decide +kernel)
  refine lv_iload_n hx hb dX2_add_0 rfl (lv_at hl 1 rfl) ?_
  refine rcS (As := [.int a]) (rest := []) ⟨hx, hb, hml, hown, hts⟩ (kX2_isMarkNumber l D cI cZ a) (va_cwS 1 hts gX2_add_X2_isMarkNumber rfl rfl rfl (by decide +kernel) ⟨Nat.le_of_ble_eq_true rfl, Nat.le_of_ble_eq_true rfl⟩) hK hP [] rfl rfl hl.1 rfl (Nat.le_of_ble_eq_true rfl) ⟨Nat.zero_le _, Nat.zero_le _⟩ dX2_add_1 ?_
  refine lb_eq (tgt := 29) hx hb dX2_add_4 (by decide) (fun c_4 => ?_) (fun c_4 => ?_)
  · skip
    refine lv_iconst (v := (-1)) hx hb dX2_add_29 (by decide) ?_
    refine mu_iret hx hb hr hlocks hS dX2_add_30 ?_ ?_
    · first | (rw [if_pos (by simp [okM, c_4])] <;> rfl) | (rw [if_neg (by simp [okM, c_4])])
    have q0 : (nI (if okM a b c d = true then adn 24 np else np)) = (nI np) := by first | (rw [if_pos (by simp [okM, c_4])] <;> rfl) | (rw [if_neg (by simp [okM, c_4])])
    have q1 : (fl 6 (if okM a b c d = true then paddT np P a b c d else P)) = (fl 6 P) := by first | (rw [if_pos (by simp [okM, c_4])] <;> rfl) | (rw [if_neg (by simp [okM, c_4])])
    rw [q0, q1]
    exact hP
  · skip
    refine lv_iload_n hx hb dX2_add_7 rfl (lv_at hl 2 rfl) ?_
    refine rcS (As := [.int b]) (rest := []) ⟨hx, hb, hml, hown, hts⟩ (kX2_isMarkNumber l D cI cZ b) (va_cwS 1 hts gX2_add_X2_isMarkNumber rfl rfl rfl (by decide +kernel) ⟨Nat.le_of_ble_eq_true rfl, Nat.le_of_ble_eq_true rfl⟩) hK hP [] rfl rfl hl.1 rfl (Nat.le_of_ble_eq_true rfl) ⟨Nat.zero_le _, Nat.zero_le _⟩ dX2_add_8 ?_
    refine lb_eq (tgt := 29) hx hb dX2_add_11 (by decide) (fun c_11 => ?_) (fun c_11 => ?_)
    · skip
      refine lv_iconst (v := (-1)) hx hb dX2_add_29 (by decide) ?_
      refine mu_iret hx hb hr hlocks hS dX2_add_30 ?_ ?_
      · first | (rw [if_pos (by simp [okM, c_4, c_11])] <;> rfl) | (rw [if_neg (by simp [okM, c_4, c_11])])
      have q0 : (nI (if okM a b c d = true then adn 24 np else np)) = (nI np) := by first | (rw [if_pos (by simp [okM, c_4, c_11])] <;> rfl) | (rw [if_neg (by simp [okM, c_4, c_11])])
      have q1 : (fl 6 (if okM a b c d = true then paddT np P a b c d else P)) = (fl 6 P) := by first | (rw [if_pos (by simp [okM, c_4, c_11])] <;> rfl) | (rw [if_neg (by simp [okM, c_4, c_11])])
      rw [q0, q1]
      exact hP
    · skip
      refine lv_iload_n hx hb dX2_add_14 rfl (lv_at hl 3 rfl) ?_
      refine rcS (As := [.int c]) (rest := []) ⟨hx, hb, hml, hown, hts⟩ (kX2_isMarkNumber l D cI cZ c) (va_cwS 1 hts gX2_add_X2_isMarkNumber rfl rfl rfl (by decide +kernel) ⟨Nat.le_of_ble_eq_true rfl, Nat.le_of_ble_eq_true rfl⟩) hK hP [] rfl rfl hl.1 rfl (Nat.le_of_ble_eq_true rfl) ⟨Nat.zero_le _, Nat.zero_le _⟩ dX2_add_15 ?_
      refine lb_eq (tgt := 29) hx hb dX2_add_18 (by decide) (fun c_18 => ?_) (fun c_18 => ?_)
      · skip
        refine lv_iconst (v := (-1)) hx hb dX2_add_29 (by decide) ?_
        refine mu_iret hx hb hr hlocks hS dX2_add_30 ?_ ?_
        · first | (rw [if_pos (by simp [okM, c_4, c_11, c_18])] <;> rfl) | (rw [if_neg (by simp [okM, c_4, c_11, c_18])])
        have q0 : (nI (if okM a b c d = true then adn 24 np else np)) = (nI np) := by first | (rw [if_pos (by simp [okM, c_4, c_11, c_18])] <;> rfl) | (rw [if_neg (by simp [okM, c_4, c_11, c_18])])
        have q1 : (fl 6 (if okM a b c d = true then paddT np P a b c d else P)) = (fl 6 P) := by first | (rw [if_pos (by simp [okM, c_4, c_11, c_18])] <;> rfl) | (rw [if_neg (by simp [okM, c_4, c_11, c_18])])
        rw [q0, q1]
        exact hP
      · skip
        refine lv_iload hx hb dX2_add_21 (lv_at hl 4 rfl) ?_
        refine rcS (As := [.int d]) (rest := []) ⟨hx, hb, hml, hown, hts⟩ (kX2_isMarkNumber l D cI cZ d) (va_cwS 1 hts gX2_add_X2_isMarkNumber rfl rfl rfl (by decide +kernel) ⟨Nat.le_of_ble_eq_true rfl, Nat.le_of_ble_eq_true rfl⟩) hK hP [] rfl rfl hl.1 rfl (Nat.le_of_ble_eq_true rfl) ⟨Nat.zero_le _, Nat.zero_le _⟩ dX2_add_23 ?_
        refine lb_ne (tgt := 31) hx hb dX2_add_26 (by decide) (fun c_26 => ?_) (fun c_26 => ?_)
        · skip
          refine lv_aload_n hx hb dX2_add_31 rfl (lv_at hl 0 rfl) ?_
          refine va_get (D := D) (ci := 2) (v := .ref hP_) (C := RX2) (T := TX2) (N := 1) hx hb hts hin2 hown hK hP 0 rfl rfl 0 (by decide) hf16 (fun _ h9 => h9) rfl dX2_add_32 ?_
          refine mcV (As := []) (rest := []) (ci := 3) (wn := [(pe, .inr (2, [.ref hP_])), (hP_, .inr (3, [.int (nI 24), .int (nI 6), .ref aP, .int (nI (adn 24 np))])), (aP, .inl (cI, 24 * 6, .inl (fl 6 P)))]) ⟨hx, hb, hml, hown, hts⟩ (kX3_addRow l D cI cZ hP_ aP 24 6 np P (by first | assumption | omega)) (cwV 0 hts gX2_add_X3_addRow rfl rfl rfl (by decide +kernel) ⟨Nat.le_of_ble_eq_true rfl, Nat.le_of_ble_eq_true rfl⟩) hK hP hD hS [1, 2] rfl rfl rfl rfl rfl rfl rfl rfl rfl hl.1 rfl (Nat.le_of_ble_eq_true rfl) ⟨Nat.zero_le _, Nat.zero_le _⟩ dX2_add_35 (fun H locs hP hD hS => ?_)
          refine W.eq (g2 := F0 mm 38 ls (.int (arow 24 np) :: [])) rfl ?_
          refine lv_istore (lv' := [(5, .int (arow 24 np)), (0, .ref pe), (1, .int a), (2, .int b), (3, .int c), (4, .int d)]) hx hb dX2_add_38 hl (by decide) rfl (fun ls hl => ?_)
          refine lv_aload_n hx hb dX2_add_40 rfl (lv_at hl 1 rfl) ?_
          refine va_get (D := D) (ci := 2) (v := .ref hP_) (C := RX2) (T := TX2) (N := 1) hx hb hts hin2 hown hK hP 0 rfl rfl 0 (by decide) hf16 (fun _ h9 => h9) rfl dX2_add_41 ?_
          refine lv_iload hx hb dX2_add_44 (lv_at hl 0 rfl) ?_
          refine lv_iconst (v := 0) hx hb dX2_add_46 (by decide) ?_
          refine lv_iload_n hx hb dX2_add_47 rfl (lv_at hl 2 rfl) ?_
          refine mcV (As := [.int (arow 24 np), .int 0, .int a]) (rest := []) (ci := 3) (wn := [(pe, .inr (2, [.ref hP_])), (hP_, .inr (3, [.int (nI 24), .int (nI 6), .ref aP, .int (nI (adn 24 np))])), (aP, .inl (cI, 24 * 6, .inl (fl 6 (tput (adn 24 np) 6 P (arow 24 np) 0 a))))]) ⟨hx, hb, hml, hown, hts⟩ (kX3_put l D cI cZ hP_ aP 24 6 (adn 24 np) P (arow 24 np) 0 a (by have := adn_le hnp; omega)) (cwV 3 hts gX2_add_X3_put rfl rfl rfl (by decide +kernel) ⟨Nat.le_of_ble_eq_true rfl, Nat.le_of_ble_eq_true rfl⟩) hK hP hD hS [1, 2] rfl rfl rfl rfl rfl rfl rfl rfl rfl hl.1 rfl (Nat.le_of_ble_eq_true rfl) ⟨Nat.zero_le _, Nat.zero_le _⟩ dX2_add_48 (fun H locs hP hD hS => ?_)
          refine W.eq (g2 := F0 mm 51 ls []) rfl ?_
          refine lv_aload_n hx hb dX2_add_51 rfl (lv_at hl 1 rfl) ?_
          refine va_get (D := D) (ci := 2) (v := .ref hP_) (C := RX2) (T := TX2) (N := 1) hx hb hts hin2 hown hK hP 0 rfl rfl 0 (by decide) hf16 (fun _ h9 => h9) rfl dX2_add_52 ?_
          refine lv_iload hx hb dX2_add_55 (lv_at hl 0 rfl) ?_
          refine lv_iconst (v := 1) hx hb dX2_add_57 (by decide) ?_
          refine lv_iload_n hx hb dX2_add_58 rfl (lv_at hl 3 rfl) ?_
          refine mcV (As := [.int (arow 24 np), .int 1, .int b]) (rest := []) (ci := 3) (wn := [(pe, .inr (2, [.ref hP_])), (hP_, .inr (3, [.int (nI 24), .int (nI 6), .ref aP, .int (nI (adn 24 np))])), (aP, .inl (cI, 24 * 6, .inl (fl 6 (tput (adn 24 np) 6 (tput (adn 24 np) 6 P (arow 24 np) 0 a) (arow 24 np) 1 b))))]) ⟨hx, hb, hml, hown, hts⟩ (kX3_put l D cI cZ hP_ aP 24 6 (adn 24 np) (tput (adn 24 np) 6 P (arow 24 np) 0 a) (arow 24 np) 1 b (by have := adn_le hnp; omega)) (cwV 3 hts gX2_add_X3_put rfl rfl rfl (by decide +kernel) ⟨Nat.le_of_ble_eq_true rfl, Nat.le_of_ble_eq_true rfl⟩) hK hP hD hS [1, 2] rfl rfl rfl rfl rfl rfl rfl rfl rfl hl.1 rfl (Nat.le_of_ble_eq_true rfl) ⟨Nat.zero_le _, Nat.zero_le _⟩ dX2_add_59 (fun H locs hP hD hS => ?_)
          refine W.eq (g2 := F0 mm 62 ls []) rfl ?_
          refine lv_aload_n hx hb dX2_add_62 rfl (lv_at hl 1 rfl) ?_
          refine va_get (D := D) (ci := 2) (v := .ref hP_) (C := RX2) (T := TX2) (N := 1) hx hb hts hin2 hown hK hP 0 rfl rfl 0 (by decide) hf16 (fun _ h9 => h9) rfl dX2_add_63 ?_
          refine lv_iload hx hb dX2_add_66 (lv_at hl 0 rfl) ?_
          refine lv_iconst (v := 2) hx hb dX2_add_68 (by decide) ?_
          refine lv_iload_n hx hb dX2_add_69 rfl (lv_at hl 4 rfl) ?_
          refine mcV (As := [.int (arow 24 np), .int 2, .int c]) (rest := []) (ci := 3) (wn := [(pe, .inr (2, [.ref hP_])), (hP_, .inr (3, [.int (nI 24), .int (nI 6), .ref aP, .int (nI (adn 24 np))])), (aP, .inl (cI, 24 * 6, .inl (fl 6 (tput (adn 24 np) 6 (tput (adn 24 np) 6 (tput (adn 24 np) 6 P (arow 24 np) 0 a) (arow 24 np) 1 b) (arow 24 np) 2 c))))]) ⟨hx, hb, hml, hown, hts⟩ (kX3_put l D cI cZ hP_ aP 24 6 (adn 24 np) (tput (adn 24 np) 6 (tput (adn 24 np) 6 P (arow 24 np) 0 a) (arow 24 np) 1 b) (arow 24 np) 2 c (by have := adn_le hnp; omega)) (cwV 3 hts gX2_add_X3_put rfl rfl rfl (by decide +kernel) ⟨Nat.le_of_ble_eq_true rfl, Nat.le_of_ble_eq_true rfl⟩) hK hP hD hS [1, 2] rfl rfl rfl rfl rfl rfl rfl rfl rfl hl.1 rfl (Nat.le_of_ble_eq_true rfl) ⟨Nat.zero_le _, Nat.zero_le _⟩ dX2_add_70 (fun H locs hP hD hS => ?_)
          refine W.eq (g2 := F0 mm 73 ls []) rfl ?_
          refine lv_aload_n hx hb dX2_add_73 rfl (lv_at hl 1 rfl) ?_
          refine va_get (D := D) (ci := 2) (v := .ref hP_) (C := RX2) (T := TX2) (N := 1) hx hb hts hin2 hown hK hP 0 rfl rfl 0 (by decide) hf16 (fun _ h9 => h9) rfl dX2_add_74 ?_
          refine lv_iload hx hb dX2_add_77 (lv_at hl 0 rfl) ?_
          refine lv_iconst (v := 3) hx hb dX2_add_79 (by decide) ?_
          refine lv_iload hx hb dX2_add_80 (lv_at hl 5 rfl) ?_
          refine mcV (As := [.int (arow 24 np), .int 3, .int d]) (rest := []) (ci := 3) (wn := [(pe, .inr (2, [.ref hP_])), (hP_, .inr (3, [.int (nI 24), .int (nI 6), .ref aP, .int (nI (adn 24 np))])), (aP, .inl (cI, 24 * 6, .inl (fl 6 (tput (adn 24 np) 6 (tput (adn 24 np) 6 (tput (adn 24 np) 6 (tput (adn 24 np) 6 P (arow 24 np) 0 a) (arow 24 np) 1 b) (arow 24 np) 2 c) (arow 24 np) 3 d))))]) ⟨hx, hb, hml, hown, hts⟩ (kX3_put l D cI cZ hP_ aP 24 6 (adn 24 np) (tput (adn 24 np) 6 (tput (adn 24 np) 6 (tput (adn 24 np) 6 P (arow 24 np) 0 a) (arow 24 np) 1 b) (arow 24 np) 2 c) (arow 24 np) 3 d (by have := adn_le hnp; omega)) (cwV 3 hts gX2_add_X3_put rfl rfl rfl (by decide +kernel) ⟨Nat.le_of_ble_eq_true rfl, Nat.le_of_ble_eq_true rfl⟩) hK hP hD hS [1, 2] rfl rfl rfl rfl rfl rfl rfl rfl rfl hl.1 rfl (Nat.le_of_ble_eq_true rfl) ⟨Nat.zero_le _, Nat.zero_le _⟩ dX2_add_82 (fun H locs hP hD hS => ?_)
          refine W.eq (g2 := F0 mm 85 ls []) rfl ?_
          refine lv_aload_n hx hb dX2_add_85 rfl (lv_at hl 1 rfl) ?_
          refine va_get (D := D) (ci := 2) (v := .ref hP_) (C := RX2) (T := TX2) (N := 1) hx hb hts hin2 hown hK hP 0 rfl rfl 0 (by decide) hf16 (fun _ h9 => h9) rfl dX2_add_86 ?_
          refine lv_iload hx hb dX2_add_89 (lv_at hl 0 rfl) ?_
          refine lv_iconst (v := 4) hx hb dX2_add_91 (by decide) ?_
          refine lv_iconst (v := (-1)) hx hb dX2_add_92 (by decide) ?_
          refine mcV (As := [.int (arow 24 np), .int 4, .int ((-1))]) (rest := []) (ci := 3) (wn := [(pe, .inr (2, [.ref hP_])), (hP_, .inr (3, [.int (nI 24), .int (nI 6), .ref aP, .int (nI (adn 24 np))])), (aP, .inl (cI, 24 * 6, .inl (fl 6 (tput (adn 24 np) 6 (tput (adn 24 np) 6 (tput (adn 24 np) 6 (tput (adn 24 np) 6 (tput (adn 24 np) 6 P (arow 24 np) 0 a) (arow 24 np) 1 b) (arow 24 np) 2 c) (arow 24 np) 3 d) (arow 24 np) 4 (-1)))))]) ⟨hx, hb, hml, hown, hts⟩ (kX3_put l D cI cZ hP_ aP 24 6 (adn 24 np) (tput (adn 24 np) 6 (tput (adn 24 np) 6 (tput (adn 24 np) 6 (tput (adn 24 np) 6 P (arow 24 np) 0 a) (arow 24 np) 1 b) (arow 24 np) 2 c) (arow 24 np) 3 d) (arow 24 np) 4 (-1) (by have := adn_le hnp; omega)) (cwV 3 hts gX2_add_X3_put rfl rfl rfl (by decide +kernel) ⟨Nat.le_of_ble_eq_true rfl, Nat.le_of_ble_eq_true rfl⟩) hK hP hD hS [1, 2] rfl rfl rfl rfl rfl rfl rfl rfl rfl hl.1 rfl (Nat.le_of_ble_eq_true rfl) ⟨Nat.zero_le _, Nat.zero_le _⟩ dX2_add_93 (fun H locs hP hD hS => ?_)
          refine W.eq (g2 := F0 mm 96 ls []) rfl ?_
          refine lv_aload_n hx hb dX2_add_96 rfl (lv_at hl 1 rfl) ?_
          refine va_get (D := D) (ci := 2) (v := .ref hP_) (C := RX2) (T := TX2) (N := 1) hx hb hts hin2 hown hK hP 0 rfl rfl 0 (by decide) hf16 (fun _ h9 => h9) rfl dX2_add_97 ?_
          refine lv_iload hx hb dX2_add_100 (lv_at hl 0 rfl) ?_
          refine lv_iconst (v := 5) hx hb dX2_add_102 (by decide) ?_
          refine lv_iconst (v := 0) hx hb dX2_add_103 (by decide) ?_
          refine mcV (As := [.int (arow 24 np), .int 5, .int 0]) (rest := []) (ci := 3) (wn := [(pe, .inr (2, [.ref hP_])), (hP_, .inr (3, [.int (nI 24), .int (nI 6), .ref aP, .int (nI (adn 24 np))])), (aP, .inl (cI, 24 * 6, .inl (fl 6 (tput (adn 24 np) 6 (tput (adn 24 np) 6 (tput (adn 24 np) 6 (tput (adn 24 np) 6 (tput (adn 24 np) 6 (tput (adn 24 np) 6 P (arow 24 np) 0 a) (arow 24 np) 1 b) (arow 24 np) 2 c) (arow 24 np) 3 d) (arow 24 np) 4 (-1)) (arow 24 np) 5 0))))]) ⟨hx, hb, hml, hown, hts⟩ (kX3_put l D cI cZ hP_ aP 24 6 (adn 24 np) (tput (adn 24 np) 6 (tput (adn 24 np) 6 (tput (adn 24 np) 6 (tput (adn 24 np) 6 (tput (adn 24 np) 6 P (arow 24 np) 0 a) (arow 24 np) 1 b) (arow 24 np) 2 c) (arow 24 np) 3 d) (arow 24 np) 4 (-1)) (arow 24 np) 5 0 (by have := adn_le hnp; omega)) (cwV 3 hts gX2_add_X3_put rfl rfl rfl (by decide +kernel) ⟨Nat.le_of_ble_eq_true rfl, Nat.le_of_ble_eq_true rfl⟩) hK hP hD hS [1, 2] rfl rfl rfl rfl rfl rfl rfl rfl rfl hl.1 rfl (Nat.le_of_ble_eq_true rfl) ⟨Nat.zero_le _, Nat.zero_le _⟩ dX2_add_104 (fun H locs hP hD hS => ?_)
          refine W.eq (g2 := F0 mm 107 ls []) rfl ?_
          refine lv_iload hx hb dX2_add_107 (lv_at hl 0 rfl) ?_
          refine mu_iret hx hb hr hlocks hS dX2_add_109 ?_ ?_
          · first | (rw [if_pos (by simp [okM, c_4, c_11, c_18, c_26])] <;> rfl) | (rw [if_neg (by simp [okM, c_4, c_11, c_18, c_26])])
          have q0 : (nI (if okM a b c d = true then adn 24 np else np)) = (nI (adn 24 np)) := by first | (rw [if_pos (by simp [okM, c_4, c_11, c_18, c_26])] <;> rfl) | (rw [if_neg (by simp [okM, c_4, c_11, c_18, c_26])])
          have q1 : (fl 6 (if okM a b c d = true then paddT np P a b c d else P)) = (fl 6 (tput (adn 24 np) 6 (tput (adn 24 np) 6 (tput (adn 24 np) 6 (tput (adn 24 np) 6 (tput (adn 24 np) 6 (tput (adn 24 np) 6 P (arow 24 np) 0 a) (arow 24 np) 1 b) (arow 24 np) 2 c) (arow 24 np) 3 d) (arow 24 np) 4 (-1)) (arow 24 np) 5 0)) := by first | (rw [if_pos (by simp [okM, c_4, c_11, c_18, c_26])] <;> rfl) | (rw [if_neg (by simp [okM, c_4, c_11, c_18, c_26])])
          rw [q0, q1]
          exact hP
        · skip
          refine lv_iconst (v := (-1)) hx hb dX2_add_29 (by decide) ?_
          refine mu_iret hx hb hr hlocks hS dX2_add_30 ?_ ?_
          · first | (rw [if_pos (by simp [okM, c_4, c_11, c_18, c_26])] <;> rfl) | (rw [if_neg (by simp [okM, c_4, c_11, c_18, c_26])])
          have q0 : (nI (if okM a b c d = true then adn 24 np else np)) = (nI np) := by first | (rw [if_pos (by simp [okM, c_4, c_11, c_18, c_26])] <;> rfl) | (rw [if_neg (by simp [okM, c_4, c_11, c_18, c_26])])
          have q1 : (fl 6 (if okM a b c d = true then paddT np P a b c d else P)) = (fl 6 P) := by first | (rw [if_pos (by simp [okM, c_4, c_11, c_18, c_26])] <;> rfl) | (rw [if_neg (by simp [okM, c_4, c_11, c_18, c_26])])
          rw [q0, q1]
          exact hP
set_option maxHeartbeats 4000000 in
set_option maxRecDepth 100000 in
theorem kX2_setMark (l : Launch) (D : va_G) (cI cZ : ClassId) (pe hP_ aP np : Nat) (P : Nat → Nat → Int32) (p : Int32) (m : Int32) (n : Int32) (hnp : np ≤ 24) : Met l yX2_setMark wsX2_setMark ({ frames := 2, cells := 0, slots := 0, locals := 45 } : Room) (MuP D [(cI, .int), (cZ, .boolean)] [.ref pe, .int p, .int m, .int n] [(pe, .inr (2, [.ref hP_])), (hP_, .inr (3, [.int (nI 24), .int (nI 6), .ref aP, .int (nI np)])), (aP, .inl (cI, 24 * 6, .inl (fl 6 P)))]) (QM D (some (.int (bI (inR np p && inB m 0 3 && inB n 0 7)))) [(pe, .inr (2, [.ref hP_])), (hP_, .inr (3, [.int (nI 24), .int (nI 6), .ref aP, .int (nI np)])), (aP, .inl (cI, 24 * 6, .inl (fl 6 P)))] [(pe, .inr (2, [.ref hP_])), (hP_, .inr (3, [.int (nI 24), .int (nI 6), .ref aP, .int (nI np)])), (aP, .inl (cI, 24 * 6, .inl (fl 6 (if (inR np p && inB m 0 3 && inB n 0 7) = true then tput np 6 P p m n else P))))]) 0 0 (adr [(pe, .inr (2, [.ref hP_])), (hP_, .inr (3, [.int (nI 24), .int (nI 6), .ref aP, .int (nI np)])), (aP, .inl (cI, 24 * 6, .inl (fl 6 P)))]) := by
  refine mu_of (cc := cX2_setMark) (maxL := 4) (ret := (some .boolean)) (by decide) rfl (Nat.le_of_ble_eq_true rfl) ?_
  intro pp ee ss mm bw me cd ls hx hb hr hts hown hlocks hml hK hl H locs hP hD hS
  have hl : lv_has ls 4 [(0, .ref pe), (1, .int p), (2, .int m), (3, .int n)] := hl
  have hf16 := hts (.fieldLink RX2 16 "OtherNames$People" "rows" "LOtherNames$Rows;") (by decide +kernel)
  have hin2 := (show ∀ w ∈ wsX20, w ∈ wsX2_setMark by decide +kernel)
  refine lv_aload_n hx hb dX2_setMark_0 rfl (lv_at hl 0 rfl) ?_
  refine lv_iload_n hx hb dX2_setMark_1 rfl (lv_at hl 1 rfl) ?_
  refine rcV (As := [.int p]) (rest := []) (ci := 2) ⟨hx, hb, hml, hown, hts⟩ (kX2_isThere l D cI cZ pe hP_ aP np P p (by first | assumption | omega)) (cwV 1 hts gX2_setMark_X2_isThere rfl rfl rfl (by decide +kernel) ⟨Nat.le_of_ble_eq_true rfl, Nat.le_of_ble_eq_true rfl⟩) hK hP [0, 1, 2] rfl rfl rfl rfl rfl hl.1 rfl (Nat.le_of_ble_eq_true rfl) ⟨Nat.zero_le _, Nat.zero_le _⟩ dX2_setMark_2 ?_
  refine lb_eq (tgt := 22) hx hb dX2_setMark_5 (by decide) (fun c_5 => ?_) (fun c_5 => ?_)
  · skip
    refine lv_iconst (v := 0) hx hb dX2_setMark_22 (by decide) ?_
    refine mu_zret hx hb hr hlocks hS dX2_setMark_23 ?_ ?_
    · simp [bI, c_5]
    have q0 : (fl 6 (if (inR np p && inB m 0 3 && inB n 0 7) = true then tput np 6 P p m n else P)) = (fl 6 P) := by simp [c_5]
    rw [q0]
    exact hP
  · skip
    refine lv_iload_n hx hb dX2_setMark_8 rfl (lv_at hl 2 rfl) ?_
    refine rcS (As := [.int m]) (rest := []) ⟨hx, hb, hml, hown, hts⟩ (kX2_isMark l D cI cZ m) (va_cwS 1 hts gX2_setMark_X2_isMark rfl rfl rfl (by decide +kernel) ⟨Nat.le_of_ble_eq_true rfl, Nat.le_of_ble_eq_true rfl⟩) hK hP [] rfl rfl hl.1 rfl (Nat.le_of_ble_eq_true rfl) ⟨Nat.zero_le _, Nat.zero_le _⟩ dX2_setMark_9 ?_
    refine lb_eq (tgt := 22) hx hb dX2_setMark_12 (by decide) (fun c_12 => ?_) (fun c_12 => ?_)
    · skip
      refine lv_iconst (v := 0) hx hb dX2_setMark_22 (by decide) ?_
      refine mu_zret hx hb hr hlocks hS dX2_setMark_23 ?_ ?_
      · simp [bI, c_5, c_12]
      have q0 : (fl 6 (if (inR np p && inB m 0 3 && inB n 0 7) = true then tput np 6 P p m n else P)) = (fl 6 P) := by simp [c_5, c_12]
      rw [q0]
      exact hP
    · skip
      refine lv_iload_n hx hb dX2_setMark_15 rfl (lv_at hl 3 rfl) ?_
      refine rcS (As := [.int n]) (rest := []) ⟨hx, hb, hml, hown, hts⟩ (kX2_isMarkNumber l D cI cZ n) (va_cwS 1 hts gX2_setMark_X2_isMarkNumber rfl rfl rfl (by decide +kernel) ⟨Nat.le_of_ble_eq_true rfl, Nat.le_of_ble_eq_true rfl⟩) hK hP [] rfl rfl hl.1 rfl (Nat.le_of_ble_eq_true rfl) ⟨Nat.zero_le _, Nat.zero_le _⟩ dX2_setMark_16 ?_
      refine lb_ne (tgt := 24) hx hb dX2_setMark_19 (by decide) (fun c_19 => ?_) (fun c_19 => ?_)
      · skip
        refine lv_aload_n hx hb dX2_setMark_24 rfl (lv_at hl 0 rfl) ?_
        refine va_get (D := D) (ci := 2) (v := .ref hP_) (C := RX2) (T := TX2) (N := 1) hx hb hts hin2 hown hK hP 0 rfl rfl 0 (by decide) hf16 (fun _ h9 => h9) rfl dX2_setMark_25 ?_
        refine lv_iload_n hx hb dX2_setMark_28 rfl (lv_at hl 1 rfl) ?_
        refine lv_iload_n hx hb dX2_setMark_29 rfl (lv_at hl 2 rfl) ?_
        refine lv_iload_n hx hb dX2_setMark_30 rfl (lv_at hl 3 rfl) ?_
        refine mcV (As := [.int p, .int m, .int n]) (rest := []) (ci := 3) (wn := [(pe, .inr (2, [.ref hP_])), (hP_, .inr (3, [.int (nI 24), .int (nI 6), .ref aP, .int (nI np)])), (aP, .inl (cI, 24 * 6, .inl (fl 6 (tput np 6 P p m n))))]) ⟨hx, hb, hml, hown, hts⟩ (kX3_put l D cI cZ hP_ aP 24 6 np P p m n (by first | assumption | omega)) (cwV 3 hts gX2_setMark_X3_put rfl rfl rfl (by decide +kernel) ⟨Nat.le_of_ble_eq_true rfl, Nat.le_of_ble_eq_true rfl⟩) hK hP hD hS [1, 2] rfl rfl rfl rfl rfl rfl rfl rfl rfl hl.1 rfl (Nat.le_of_ble_eq_true rfl) ⟨Nat.zero_le _, Nat.zero_le _⟩ dX2_setMark_31 (fun H locs hP hD hS => ?_)
        refine W.eq (g2 := F0 mm 34 ls []) rfl ?_
        refine lv_iconst (v := 1) hx hb dX2_setMark_34 (by decide) ?_
        refine mu_zret hx hb hr hlocks hS dX2_setMark_35 ?_ ?_
        · simp [bI, c_5, c_12, c_19]
        have q0 : (fl 6 (if (inR np p && inB m 0 3 && inB n 0 7) = true then tput np 6 P p m n else P)) = (fl 6 (tput np 6 P p m n)) := by simp [c_5, c_12, c_19]
        rw [q0]
        exact hP
      · skip
        refine lv_iconst (v := 0) hx hb dX2_setMark_22 (by decide) ?_
        refine mu_zret hx hb hr hlocks hS dX2_setMark_23 ?_ ?_
        · simp [bI, c_5, c_12, c_19]
        have q0 : (fl 6 (if (inR np p && inB m 0 3 && inB n 0 7) = true then tput np 6 P p m n else P)) = (fl 6 P) := by simp [c_5, c_12, c_19]
        rw [q0]
        exact hP
set_option maxHeartbeats 4000000 in
set_option maxRecDepth 100000 in
theorem kX2_leave (l : Launch) (D : va_G) (cI cZ : ClassId) (pe hP_ aP np : Nat) (P : Nat → Nat → Int32) (p : Int32) (hnp : np ≤ 24) : Met l yX2_leave wsX2_leave ({ frames := 3, cells := 0, slots := 0, locals := 65 } : Room) (MuP D [(cI, .int), (cZ, .boolean)] [.ref pe, .int p] [(pe, .inr (2, [.ref hP_])), (hP_, .inr (3, [.int (nI 24), .int (nI 6), .ref aP, .int (nI np)])), (aP, .inl (cI, 24 * 6, .inl (fl 6 P)))]) (QM D (some (.int (bI (!decide (tat np 6 P p 4 = -1))))) [(pe, .inr (2, [.ref hP_])), (hP_, .inr (3, [.int (nI 24), .int (nI 6), .ref aP, .int (nI np)])), (aP, .inl (cI, 24 * 6, .inl (fl 6 P)))] [(pe, .inr (2, [.ref hP_])), (hP_, .inr (3, [.int (nI 24), .int (nI 6), .ref aP, .int (nI np)])), (aP, .inl (cI, 24 * 6, .inl (fl 6 (if tat np 6 P p 4 = -1 then P else tput np 6 P p 4 (-1)))))]) 0 0 (adr [(pe, .inr (2, [.ref hP_])), (hP_, .inr (3, [.int (nI 24), .int (nI 6), .ref aP, .int (nI np)])), (aP, .inl (cI, 24 * 6, .inl (fl 6 P)))]) := by
  refine mu_of (cc := cX2_leave) (maxL := 2) (ret := (some .boolean)) (by decide) rfl (Nat.le_of_ble_eq_true rfl) ?_
  intro pp ee ss mm bw me cd ls hx hb hr hts hown hlocks hml hK hl H locs hP hD hS
  have hl : lv_has ls 2 [(0, .ref pe), (1, .int p)] := hl
  have hf16 := hts (.fieldLink RX2 16 "OtherNames$People" "rows" "LOtherNames$Rows;") (by decide +kernel)
  have hin2 := (show ∀ w ∈ wsX20, w ∈ wsX2_leave by decide +kernel)
  refine lv_aload_n hx hb dX2_leave_0 rfl (lv_at hl 0 rfl) ?_
  refine lv_iload_n hx hb dX2_leave_1 rfl (lv_at hl 1 rfl) ?_
  refine rcV (As := [.int p]) (rest := []) (ci := 2) ⟨hx, hb, hml, hown, hts⟩ (kX2_holderOf l D cI cZ pe hP_ aP np P p (by first | assumption | omega)) (cwV 1 hts gX2_leave_X2_holderOf rfl rfl rfl (by decide +kernel) ⟨Nat.le_of_ble_eq_true rfl, Nat.le_of_ble_eq_true rfl⟩) hK hP [0, 1, 2] rfl rfl rfl rfl rfl hl.1 rfl (Nat.le_of_ble_eq_true rfl) ⟨Nat.zero_le _, Nat.zero_le _⟩ dX2_leave_2 ?_
  refine lv_iconst (v := (-1)) hx hb dX2_leave_5 (by decide) ?_
  refine lv_icmp_ne (tgt := 11) hx hb dX2_leave_6 (by decide) (fun c_6 => ?_) (fun c_6 => ?_)
  · skip
    refine lv_aload_n hx hb dX2_leave_11 rfl (lv_at hl 0 rfl) ?_
    refine va_get (D := D) (ci := 2) (v := .ref hP_) (C := RX2) (T := TX2) (N := 1) hx hb hts hin2 hown hK hP 0 rfl rfl 0 (by decide) hf16 (fun _ h9 => h9) rfl dX2_leave_12 ?_
    refine lv_iload_n hx hb dX2_leave_15 rfl (lv_at hl 1 rfl) ?_
    refine lv_iconst (v := 4) hx hb dX2_leave_16 (by decide) ?_
    refine lv_iconst (v := (-1)) hx hb dX2_leave_17 (by decide) ?_
    refine mcV (As := [.int p, .int 4, .int ((-1))]) (rest := []) (ci := 3) (wn := [(pe, .inr (2, [.ref hP_])), (hP_, .inr (3, [.int (nI 24), .int (nI 6), .ref aP, .int (nI np)])), (aP, .inl (cI, 24 * 6, .inl (fl 6 (tput np 6 P p 4 (-1)))))]) ⟨hx, hb, hml, hown, hts⟩ (kX3_put l D cI cZ hP_ aP 24 6 np P p 4 (-1) (by first | assumption | omega)) (cwV 3 hts gX2_leave_X3_put rfl rfl rfl (by decide +kernel) ⟨Nat.le_of_ble_eq_true rfl, Nat.le_of_ble_eq_true rfl⟩) hK hP hD hS [1, 2] rfl rfl rfl rfl rfl rfl rfl rfl rfl hl.1 rfl (Nat.le_of_ble_eq_true rfl) ⟨Nat.zero_le _, Nat.zero_le _⟩ dX2_leave_18 (fun H locs hP hD hS => ?_)
    refine W.eq (g2 := F0 mm 21 ls []) rfl ?_
    refine lv_iconst (v := 1) hx hb dX2_leave_21 (by decide) ?_
    refine mu_zret hx hb hr hlocks hS dX2_leave_22 ?_ ?_
    · simp [bI, c_6]
    have q0 : (fl 6 (if tat np 6 P p 4 = -1 then P else tput np 6 P p 4 (-1))) = (fl 6 (tput np 6 P p 4 (-1))) := by simp [c_6]
    rw [q0]
    exact hP
  · skip
    refine lv_iconst (v := 0) hx hb dX2_leave_9 (by decide) ?_
    refine mu_zret hx hb hr hlocks hS dX2_leave_10 ?_ ?_
    · simp [bI, c_6]
    have q0 : (fl 6 (if tat np 6 P p 4 = -1 then P else tput np 6 P p 4 (-1))) = (fl 6 P) := by simp [c_6]
    rw [q0]
    exact hP
set_option maxHeartbeats 4000000 in
set_option maxRecDepth 100000 in
theorem kX2_strikeOutAllUnder (l : Launch) (D : va_G) (cI cZ : ClassId) (pe hP_ aP np : Nat) (P : Nat → Nat → Int32) (h : Nat) (hnp : np ≤ 24) (hw : HP np (P 4)) (hh : h < 2 ^ 31) : Met l yX2_strikeOutAllUnder wsX2_strikeOutAllUnder ({ frames := 3, cells := 0, slots := 0, locals := 67 } : Room) (MuP D [(cI, .int), (cZ, .boolean)] [.ref pe, .int (nI h)] [(pe, .inr (2, [.ref hP_])), (hP_, .inr (3, [.int (nI 24), .int (nI 6), .ref aP, .int (nI np)])), (aP, .inl (cI, 24 * 6, .inl (fl 6 P)))]) (QM D none [(pe, .inr (2, [.ref hP_])), (hP_, .inr (3, [.int (nI 24), .int (nI 6), .ref aP, .int (nI np)])), (aP, .inl (cI, 24 * 6, .inl (fl 6 P)))] [(pe, .inr (2, [.ref hP_])), (hP_, .inr (3, [.int (nI 24), .int (nI 6), .ref aP, .int (nI np)])), (aP, .inl (cI, 24 * 6, .inl (fl 6 (strk np P h 24))))]) 0 0 (adr [(pe, .inr (2, [.ref hP_])), (hP_, .inr (3, [.int (nI 24), .int (nI 6), .ref aP, .int (nI np)])), (aP, .inl (cI, 24 * 6, .inl (fl 6 P)))]) := by
  refine mu_of (cc := cX2_strikeOutAllUnder) (maxL := 3) (ret := none) (by decide) rfl (Nat.le_of_ble_eq_true rfl) ?_
  intro pp ee ss mm bw me cd ls hx hb hr hts hown hlocks hml hK hl H locs hP hD hS
  have hl : lv_has ls 3 [(0, .ref pe), (1, .int ((nI h)))] := hl
  have hf16 := hts (.fieldLink RX2 16 "OtherNames$People" "rows" "LOtherNames$Rows;") (by decide +kernel)
  have hin2 := (show ∀ w ∈ wsX20, w ∈ wsX2_strikeOutAllUnder by decide +kernel)
  refine lv_iconst (v := 0) hx hb dX2_strikeOutAllUnder_0 (by decide) ?_
  refine lv_istore_n (lv' := [(2, .int 0), (0, .ref pe), (1, .int ((nI h)))]) hx hb dX2_strikeOutAllUnder_1 rfl hl (by decide) rfl (fun ls hl => ?_)
  have loop : ∀ (k : Nat) (i : Nat) (H : Heap) (locs : List Loc) (ls : Array Slot), i ≤ 24 → 24 < i + k → lv_has ls 3 [(0, .ref pe), (1, .int ((nI h))), (2, .int (nI i))] → va_P D vwCl [(pe, .inr (2, [.ref hP_])), (hP_, .inr (3, [.int (nI 24), .int (nI 6), .ref aP, .int (nI np)])), (aP, .inl (cI, 24 * 6, .inl (fl 6 (strk np P h i))))] H → va_D (adr [(pe, .inr (2, [.ref hP_])), (hP_, .inr (3, [.int (nI 24), .int (nI 6), .ref aP, .int (nI np)])), (aP, .inl (cI, 24 * 6, .inl (fl 6 P)))]) [(pe, .inr (2, [.ref hP_])), (hP_, .inr (3, [.int (nI 24), .int (nI 6), .ref aP, .int (nI np)])), (aP, .inl (cI, 24 * 6, .inl (fl 6 (strk np P h i))))] → va_S (adr [(pe, .inr (2, [.ref hP_])), (hP_, .inr (3, [.int (nI 24), .int (nI 6), .ref aP, .int (nI np)])), (aP, .inl (cI, 24 * 6, .inl (fl 6 P)))]) ss.heap H locs → W pp l ee ({ frames := 3, cells := 0, slots := 0, locals := 67 } : Room) ss mm ([.ref pe, .int (nI h)] : List Value).toArray bw me cd H locs 0 0 (MQ bw (QM D none [(pe, .inr (2, [.ref hP_])), (hP_, .inr (3, [.int (nI 24), .int (nI 6), .ref aP, .int (nI np)])), (aP, .inl (cI, 24 * 6, .inl (fl 6 P)))] [(pe, .inr (2, [.ref hP_])), (hP_, .inr (3, [.int (nI 24), .int (nI 6), .ref aP, .int (nI np)])), (aP, .inl (cI, 24 * 6, .inl (fl 6 (strk np P h 24))))]) ([.ref pe, .int (nI h)] : List Value).toArray ss 0 0 (adr [(pe, .inr (2, [.ref hP_])), (hP_, .inr (3, [.int (nI 24), .int (nI 6), .ref aP, .int (nI np)])), (aP, .inl (cI, 24 * 6, .inl (fl 6 P)))])) (F0 mm 2 ls []) := by
    intro k
    induction k with
    | zero => intro i H locs ls hi hk; exact absurd hk (by omega)
    | succ k ih =>
      intro i H locs ls hi hk hl hP hD hS
      refine lv_iload_n hx hb dX2_strikeOutAllUnder_2 rfl (lv_at hl 2 rfl) ?_
      refine lv_bipush (v := 24) hx hb dX2_strikeOutAllUnder_3 (by decide) ?_
      refine lv_icmp_ge (tgt := 41) hx hb dX2_strikeOutAllUnder_5 (by decide) (fun c_5 => ?_) (fun c_5 => ?_)
      · skip
        have hi2 : i = 24 := Nat.le_antisymm hi (lit_T c_5 24 rfl (by omega) (by omega))
        refine mu_vret hx hb hr hlocks hS dX2_strikeOutAllUnder_41 ?_
        have q0 : (fl 6 (strk np P h 24)) = (fl 6 (strk np P h i)) := by rw [hi2]
        rw [q0]
        exact hP
      · skip
        have hi2 : i < 24 := lit_F c_5 24 rfl (by omega) (by omega)
        refine lv_aload_n hx hb dX2_strikeOutAllUnder_8 rfl (lv_at hl 0 rfl) ?_
        refine lv_iload_n hx hb dX2_strikeOutAllUnder_9 rfl (lv_at hl 2 rfl) ?_
        refine rcV (As := [.int (nI i)]) (rest := []) (ci := 2) ⟨hx, hb, hml, hown, hts⟩ (kX2_isThere l D cI cZ pe hP_ aP np (strk np P h i) (nI i) (by first | assumption | omega)) (cwV 1 hts gX2_strikeOutAllUnder_X2_isThere rfl rfl rfl (by decide +kernel) ⟨Nat.le_of_ble_eq_true rfl, Nat.le_of_ble_eq_true rfl⟩) hK hP [0, 1, 2] rfl rfl rfl rfl rfl hl.1 rfl (Nat.le_of_ble_eq_true rfl) ⟨Nat.zero_le _, Nat.zero_le _⟩ dX2_strikeOutAllUnder_10 ?_
        refine lb_eq (tgt := 35) hx hb dX2_strikeOutAllUnder_13 (by decide) (fun c_13 => ?_) (fun c_13 => ?_)
        · skip
          have hno : ¬ (i < np ∧ hd (P 4) i = h) := fun q => of_decide_eq_false ((inR_nI (n := np) (j := i) (by omega) (by omega)).symm.trans c_13) q.1
          refine lv_iinc (v := (nI i) + 1) (lv' := [(2, .int (((nI i) + 1))), (0, .ref pe), (1, .int ((nI h)))]) hx hb dX2_strikeOutAllUnder_35 hl (k := 2) rfl rfl (by decide) rfl (fun ls hl => ?_)
          refine lv_goto (tgt := 2) hx hb dX2_strikeOutAllUnder_38 (by decide) ?_
          rw [nI_1 i] at hl
          have q0 : (fl 6 (strk np P h (i + 1))) = (fl 6 (strk np P h i)) := by exact congrArg (fl 6) (strk_no hno).symm
          have hP : va_P D vwCl [(pe, .inr (2, [.ref hP_])), (hP_, .inr (3, [.int (nI 24), .int (nI 6), .ref aP, .int (nI np)])), (aP, .inl (cI, 24 * 6, .inl (fl 6 (strk np P h (i + 1)))))] H := by rw [q0]; exact hP
          have hD : va_D (adr [(pe, .inr (2, [.ref hP_])), (hP_, .inr (3, [.int (nI 24), .int (nI 6), .ref aP, .int (nI np)])), (aP, .inl (cI, 24 * 6, .inl (fl 6 P)))]) [(pe, .inr (2, [.ref hP_])), (hP_, .inr (3, [.int (nI 24), .int (nI 6), .ref aP, .int (nI np)])), (aP, .inl (cI, 24 * 6, .inl (fl 6 (strk np P h (i + 1)))))] := hD.fst rfl
          exact ih (i + 1) H locs ls (by omega) (by omega) (lv_sub hl [1, 2, 0] rfl) hP hD hS
        · skip
          have hin : i < np := of_decide_eq_true ((inR_nI (n := np) (j := i) (by omega) (by omega)).symm.trans c_13)
          refine lv_aload_n hx hb dX2_strikeOutAllUnder_16 rfl (lv_at hl 0 rfl) ?_
          refine lv_iload_n hx hb dX2_strikeOutAllUnder_17 rfl (lv_at hl 2 rfl) ?_
          refine rcV (As := [.int (nI i)]) (rest := []) (ci := 2) ⟨hx, hb, hml, hown, hts⟩ (kX2_headOf l D cI cZ pe hP_ aP np (strk np P h i) i (by first | assumption | omega) (by rw [strk_4]; exact hw) (by first | assumption | omega)) (cwV 1 hts gX2_strikeOutAllUnder_X2_headOf rfl rfl rfl (by decide +kernel) ⟨Nat.le_of_ble_eq_true rfl, Nat.le_of_ble_eq_true rfl⟩) hK hP [0, 1, 2] rfl rfl rfl rfl rfl hl.1 rfl (Nat.le_of_ble_eq_true rfl) ⟨Nat.zero_le _, Nat.zero_le _⟩ dX2_strikeOutAllUnder_18 ?_
          rw [show nI (hd ((strk np P h i) 4) i) = nI (hd (P 4) i) from by rw [strk_4]]
          refine lv_iload_n hx hb dX2_strikeOutAllUnder_21 rfl (lv_at hl 1 rfl) ?_
          refine lv_icmp_ne (tgt := 35) hx hb dX2_strikeOutAllUnder_22 (by decide) (fun c_22 => ?_) (fun c_22 => ?_)
          · skip
            have hno : ¬ (i < np ∧ hd (P 4) i = h) := fun q => c_22 (by rw [q.2])
            refine lv_iinc (v := (nI i) + 1) (lv' := [(2, .int (((nI i) + 1))), (0, .ref pe), (1, .int ((nI h)))]) hx hb dX2_strikeOutAllUnder_35 hl (k := 2) rfl rfl (by decide) rfl (fun ls hl => ?_)
            refine lv_goto (tgt := 2) hx hb dX2_strikeOutAllUnder_38 (by decide) ?_
            rw [nI_1 i] at hl
            have q0 : (fl 6 (strk np P h (i + 1))) = (fl 6 (strk np P h i)) := by exact congrArg (fl 6) (strk_no hno).symm
            have hP : va_P D vwCl [(pe, .inr (2, [.ref hP_])), (hP_, .inr (3, [.int (nI 24), .int (nI 6), .ref aP, .int (nI np)])), (aP, .inl (cI, 24 * 6, .inl (fl 6 (strk np P h (i + 1)))))] H := by rw [q0]; exact hP
            have hD : va_D (adr [(pe, .inr (2, [.ref hP_])), (hP_, .inr (3, [.int (nI 24), .int (nI 6), .ref aP, .int (nI np)])), (aP, .inl (cI, 24 * 6, .inl (fl 6 P)))]) [(pe, .inr (2, [.ref hP_])), (hP_, .inr (3, [.int (nI 24), .int (nI 6), .ref aP, .int (nI np)])), (aP, .inl (cI, 24 * 6, .inl (fl 6 (strk np P h (i + 1)))))] := hD.fst rfl
            exact ih (i + 1) H locs ls (by omega) (by omega) (lv_sub hl [1, 2, 0] rfl) hP hD hS
          · skip
            have he : hd (P 4) i = h := nI_inj (by have := hd_lt hw hnp hin; omega) hh c_22
            refine lv_aload_n hx hb dX2_strikeOutAllUnder_25 rfl (lv_at hl 0 rfl) ?_
            refine va_get (D := D) (ci := 2) (v := .ref hP_) (C := RX2) (T := TX2) (N := 1) hx hb hts hin2 hown hK hP 0 rfl rfl 0 (by decide) hf16 (fun _ h9 => h9) rfl dX2_strikeOutAllUnder_26 ?_
            refine lv_iload_n hx hb dX2_strikeOutAllUnder_29 rfl (lv_at hl 2 rfl) ?_
            refine lv_iconst (v := 5) hx hb dX2_strikeOutAllUnder_30 (by decide) ?_
            refine lv_iconst (v := 1) hx hb dX2_strikeOutAllUnder_31 (by decide) ?_
            refine mcV (As := [.int (nI i), .int 5, .int 1]) (rest := []) (ci := 3) (wn := [(pe, .inr (2, [.ref hP_])), (hP_, .inr (3, [.int (nI 24), .int (nI 6), .ref aP, .int (nI np)])), (aP, .inl (cI, 24 * 6, .inl (fl 6 (tput np 6 (strk np P h i) (nI i) 5 1))))]) ⟨hx, hb, hml, hown, hts⟩ (kX3_put l D cI cZ hP_ aP 24 6 np (strk np P h i) (nI i) 5 1 (by first | assumption | omega)) (cwV 3 hts gX2_strikeOutAllUnder_X3_put rfl rfl rfl (by decide +kernel) ⟨Nat.le_of_ble_eq_true rfl, Nat.le_of_ble_eq_true rfl⟩) hK hP hD hS [1, 2] rfl rfl rfl rfl rfl rfl rfl rfl rfl hl.1 rfl (Nat.le_of_ble_eq_true rfl) ⟨Nat.zero_le _, Nat.zero_le _⟩ dX2_strikeOutAllUnder_32 (fun H locs hP hD hS => ?_)
            refine W.eq (g2 := F0 mm 35 ls []) rfl ?_
            refine lv_iinc (v := (nI i) + 1) (lv' := [(2, .int (((nI i) + 1))), (0, .ref pe), (1, .int ((nI h)))]) hx hb dX2_strikeOutAllUnder_35 hl (k := 2) rfl rfl (by decide) rfl (fun ls hl => ?_)
            refine lv_goto (tgt := 2) hx hb dX2_strikeOutAllUnder_38 (by decide) ?_
            rw [nI_1 i] at hl
            have q0 : (fl 6 (strk np P h (i + 1))) = (fl 6 (tput np 6 (strk np P h i) (nI i) 5 1)) := by exact congrArg (fl 6) ((tput_nI (c := 5) (by omega) (by omega) hin (by omega)).trans (strk_yes hin he)).symm
            have hP : va_P D vwCl [(pe, .inr (2, [.ref hP_])), (hP_, .inr (3, [.int (nI 24), .int (nI 6), .ref aP, .int (nI np)])), (aP, .inl (cI, 24 * 6, .inl (fl 6 (strk np P h (i + 1)))))] H := by rw [q0]; exact hP
            have hD : va_D (adr [(pe, .inr (2, [.ref hP_])), (hP_, .inr (3, [.int (nI 24), .int (nI 6), .ref aP, .int (nI np)])), (aP, .inl (cI, 24 * 6, .inl (fl 6 P)))]) [(pe, .inr (2, [.ref hP_])), (hP_, .inr (3, [.int (nI 24), .int (nI 6), .ref aP, .int (nI np)])), (aP, .inl (cI, 24 * 6, .inl (fl 6 (strk np P h (i + 1)))))] := hD.fst rfl
            exact ih (i + 1) H locs ls (by omega) (by omega) (lv_sub hl [1, 2, 0] rfl) hP hD hS
  have q0 : (fl 6 (strk np P h 0)) = (fl 6 P) := by rw [strk_0]
  have hP : va_P D vwCl [(pe, .inr (2, [.ref hP_])), (hP_, .inr (3, [.int (nI 24), .int (nI 6), .ref aP, .int (nI np)])), (aP, .inl (cI, 24 * 6, .inl (fl 6 (strk np P h 0))))] H := by rw [q0]; exact hP
  have hD : va_D (adr [(pe, .inr (2, [.ref hP_])), (hP_, .inr (3, [.int (nI 24), .int (nI 6), .ref aP, .int (nI np)])), (aP, .inl (cI, 24 * 6, .inl (fl 6 P)))]) [(pe, .inr (2, [.ref hP_])), (hP_, .inr (3, [.int (nI 24), .int (nI 6), .ref aP, .int (nI np)])), (aP, .inl (cI, 24 * 6, .inl (fl 6 (strk np P h 0))))] := hD.fst rfl
  exact loop 25 0 H locs ls (by omega) (by omega) (lv_sub hl [1, 2, 0] rfl) hP hD hS
set_option maxHeartbeats 4000000 in
set_option maxRecDepth 100000 in
theorem kX2_strikeOut (l : Launch) (D : va_G) (cI cZ : ClassId) (pe hP_ aP np : Nat) (P : Nat → Nat → Int32) (p : Int32) (hnp : np ≤ 24) (hw : HP np (P 4)) : Met l yX2_strikeOut wsX2_strikeOut ({ frames := 4, cells := 0, slots := 0, locals := 89 } : Room) (MuP D [(cI, .int), (cZ, .boolean)] [.ref pe, .int p] [(pe, .inr (2, [.ref hP_])), (hP_, .inr (3, [.int (nI 24), .int (nI 6), .ref aP, .int (nI np)])), (aP, .inl (cI, 24 * 6, .inl (fl 6 P)))]) (QM D (some (.int (bI (inR np p && !isSt np P p)))) [(pe, .inr (2, [.ref hP_])), (hP_, .inr (3, [.int (nI 24), .int (nI 6), .ref aP, .int (nI np)])), (aP, .inl (cI, 24 * 6, .inl (fl 6 P)))] [(pe, .inr (2, [.ref hP_])), (hP_, .inr (3, [.int (nI 24), .int (nI 6), .ref aP, .int (nI np)])), (aP, .inl (cI, 24 * 6, .inl (fl 6 (if (inR np p && !isSt np P p) = true then strk np P (hd (P 4) p.toNatClampNeg) 24 else P))))]) 0 0 (adr [(pe, .inr (2, [.ref hP_])), (hP_, .inr (3, [.int (nI 24), .int (nI 6), .ref aP, .int (nI np)])), (aP, .inl (cI, 24 * 6, .inl (fl 6 P)))]) := by
  refine mu_of (cc := cX2_strikeOut) (maxL := 2) (ret := (some .boolean)) (by decide) rfl (Nat.le_of_ble_eq_true rfl) ?_
  intro pp ee ss mm bw me cd ls hx hb hr hts hown hlocks hml hK hl H locs hP hD hS
  have hl : lv_has ls 2 [(0, .ref pe), (1, .int p)] := hl
  refine lv_aload_n hx hb dX2_strikeOut_0 rfl (lv_at hl 0 rfl) ?_
  refine lv_iload_n hx hb dX2_strikeOut_1 rfl (lv_at hl 1 rfl) ?_
  refine rcV (As := [.int p]) (rest := []) (ci := 2) ⟨hx, hb, hml, hown, hts⟩ (kX2_isThere l D cI cZ pe hP_ aP np P p (by first | assumption | omega)) (cwV 1 hts gX2_strikeOut_X2_isThere rfl rfl rfl (by decide +kernel) ⟨Nat.le_of_ble_eq_true rfl, Nat.le_of_ble_eq_true rfl⟩) hK hP [0, 1, 2] rfl rfl rfl rfl rfl hl.1 rfl (Nat.le_of_ble_eq_true rfl) ⟨Nat.zero_le _, Nat.zero_le _⟩ dX2_strikeOut_2 ?_
  refine lb_eq (tgt := 16) hx hb dX2_strikeOut_5 (by decide) (fun c_5 => ?_) (fun c_5 => ?_)
  · skip
    refine lv_iconst (v := 0) hx hb dX2_strikeOut_16 (by decide) ?_
    refine mu_zret hx hb hr hlocks hS dX2_strikeOut_17 ?_ ?_
    · simp [bI, c_5]
    have q0 : (fl 6 (if (inR np p && !isSt np P p) = true then strk np P (hd (P 4) p.toNatClampNeg) 24 else P)) = (fl 6 P) := by simp [c_5]
    rw [q0]
    exact hP
  · skip
    obtain ⟨j, hj, rfl⟩ := inR_ex c_5 (by omega)
    refine lv_aload_n hx hb dX2_strikeOut_8 rfl (lv_at hl 0 rfl) ?_
    refine lv_iload_n hx hb dX2_strikeOut_9 rfl (lv_at hl 1 rfl) ?_
    refine rcV (As := [.int ((nI j))]) (rest := []) (ci := 2) ⟨hx, hb, hml, hown, hts⟩ (kX2_isStruckOut l D cI cZ pe hP_ aP np P (nI j) (by first | assumption | omega)) (cwV 1 hts gX2_strikeOut_X2_isStruckOut rfl rfl rfl (by decide +kernel) ⟨Nat.le_of_ble_eq_true rfl, Nat.le_of_ble_eq_true rfl⟩) hK hP [0, 1, 2] rfl rfl rfl rfl rfl hl.1 rfl (Nat.le_of_ble_eq_true rfl) ⟨Nat.zero_le _, Nat.zero_le _⟩ dX2_strikeOut_10 ?_
    refine lb_eq (tgt := 18) hx hb dX2_strikeOut_13 (by decide) (fun c_13 => ?_) (fun c_13 => ?_)
    · skip
      refine lv_aload_n hx hb dX2_strikeOut_18 rfl (lv_at hl 0 rfl) ?_
      refine lv_aload_n hx hb dX2_strikeOut_19 rfl (lv_at hl 0 rfl) ?_
      refine lv_iload_n hx hb dX2_strikeOut_20 rfl (lv_at hl 1 rfl) ?_
      refine rcV (As := [.int ((nI j))]) (rest := [.ref pe]) (ci := 2) ⟨hx, hb, hml, hown, hts⟩ (kX2_headOf l D cI cZ pe hP_ aP np P j (by first | assumption | omega) (by first | assumption | omega) (by first | assumption | omega)) (cwV 1 hts gX2_strikeOut_X2_headOf rfl rfl rfl (by decide +kernel) ⟨Nat.le_of_ble_eq_true rfl, Nat.le_of_ble_eq_true rfl⟩) hK hP [0, 1, 2] rfl rfl rfl rfl rfl hl.1 rfl (Nat.le_of_ble_eq_true rfl) ⟨Nat.zero_le _, Nat.zero_le _⟩ dX2_strikeOut_21 ?_
      refine mcV (As := [.int (nI (hd (P 4) j))]) (rest := []) (ci := 2) (wn := [(pe, .inr (2, [.ref hP_])), (hP_, .inr (3, [.int (nI 24), .int (nI 6), .ref aP, .int (nI np)])), (aP, .inl (cI, 24 * 6, .inl (fl 6 (strk np P (hd (P 4) j) 24))))]) ⟨hx, hb, hml, hown, hts⟩ (kX2_strikeOutAllUnder l D cI cZ pe hP_ aP np P (hd (P 4) j) (by first | assumption | omega) (by first | assumption | omega) (by have := hd_lt hw hnp hj; omega)) (cwV 1 hts gX2_strikeOut_X2_strikeOutAllUnder rfl rfl rfl (by decide +kernel) ⟨Nat.le_of_ble_eq_true rfl, Nat.le_of_ble_eq_true rfl⟩) hK hP hD hS [0, 1, 2] rfl rfl rfl rfl rfl rfl rfl rfl rfl hl.1 rfl (Nat.le_of_ble_eq_true rfl) ⟨Nat.zero_le _, Nat.zero_le _⟩ dX2_strikeOut_24 (fun H locs hP hD hS => ?_)
      refine W.eq (g2 := F0 mm 27 ls []) rfl ?_
      refine lv_iconst (v := 1) hx hb dX2_strikeOut_27 (by decide) ?_
      refine mu_zret hx hb hr hlocks hS dX2_strikeOut_28 ?_ ?_
      · simp [bI, c_5, c_13]
      have q0 : (fl 6 (if (inR np (nI j) && !isSt np P (nI j)) = true then strk np P (hd (P 4) (nI j).toNatClampNeg) 24 else P)) = (fl 6 (strk np P (hd (P 4) j) 24)) := by rw [if_pos (by simp [c_5, c_13]), nI_clamp (by omega)]
      rw [q0]
      exact hP
    · skip
      refine lv_iconst (v := 0) hx hb dX2_strikeOut_16 (by decide) ?_
      refine mu_zret hx hb hr hlocks hS dX2_strikeOut_17 ?_ ?_
      · simp [bI, c_5, c_13]
      have q0 : (fl 6 (if (inR np (nI j) && !isSt np P (nI j)) = true then strk np P (hd (P 4) (nI j).toNatClampNeg) 24 else P)) = (fl 6 P) := by simp [c_5, c_13]
      rw [q0]
      exact hP
set_option maxHeartbeats 4000000 in
set_option maxRecDepth 100000 in
theorem kX2_join (l : Launch) (D : va_G) (cI cZ : ClassId) (pe hP_ aP np : Nat) (P : Nat → Nat → Int32) (a : Int32) (b : Int32) (hnp : np ≤ 24) (hw : HP np (P 4)) : Met l yX2_join wsX2_join ({ frames := 4, cells := 0, slots := 0, locals := 89 } : Room) (MuP D [(cI, .int), (cZ, .boolean)] [.ref pe, .int a, .int b] [(pe, .inr (2, [.ref hP_])), (hP_, .inr (3, [.int (nI 24), .int (nI 6), .ref aP, .int (nI np)])), (aP, .inl (cI, 24 * 6, .inl (fl 6 P)))]) (QM D (some (.int (bI (okJ np P a b)))) [(pe, .inr (2, [.ref hP_])), (hP_, .inr (3, [.int (nI 24), .int (nI 6), .ref aP, .int (nI np)])), (aP, .inl (cI, 24 * 6, .inl (fl 6 P)))] [(pe, .inr (2, [.ref hP_])), (hP_, .inr (3, [.int (nI 24), .int (nI 6), .ref aP, .int (nI np)])), (aP, .inl (cI, 24 * 6, .inl (fl 6 (joinT np P a b))))]) 0 0 (adr [(pe, .inr (2, [.ref hP_])), (hP_, .inr (3, [.int (nI 24), .int (nI 6), .ref aP, .int (nI np)])), (aP, .inl (cI, 24 * 6, .inl (fl 6 P)))]) := by
  refine mu_of (cc := cX2_join) (maxL := 3) (ret := (some .boolean)) (by decide) rfl (Nat.le_of_ble_eq_true rfl) ?_
  intro pp ee ss mm bw me cd ls hx hb hr hts hown hlocks hml hK hl H locs hP hD hS
  have hl : lv_has ls 3 [(0, .ref pe), (1, .int a), (2, .int b)] := hl
  have hf16 := hts (.fieldLink RX2 16 "OtherNames$People" "rows" "LOtherNames$Rows;") (by decide +kernel)
  have hin2 := (show ∀ w ∈ wsX20, w ∈ wsX2_join by decide +kernel)
  refine lv_iload_n hx hb dX2_join_0 rfl (lv_at hl 1 rfl) ?_
  refine lv_iload_n hx hb dX2_join_1 rfl (lv_at hl 2 rfl) ?_
  refine lv_icmp_eq (tgt := 21) hx hb dX2_join_2 (by decide) (fun c_2 => ?_) (fun c_2 => ?_)
  · skip
    refine lv_iconst (v := 0) hx hb dX2_join_21 (by decide) ?_
    refine mu_zret hx hb hr hlocks hS dX2_join_22 ?_ ?_
    · simp [bI, okJ, c_2]
    have q0 : (fl 6 (joinT np P a b)) = (fl 6 P) := by unfold joinT; rw [if_neg (by simp [okJ, c_2])]
    rw [q0]
    exact hP
  · skip
    refine lv_aload_n hx hb dX2_join_5 rfl (lv_at hl 0 rfl) ?_
    refine lv_iload_n hx hb dX2_join_6 rfl (lv_at hl 1 rfl) ?_
    refine rcV (As := [.int a]) (rest := []) (ci := 2) ⟨hx, hb, hml, hown, hts⟩ (kX2_isHead l D cI cZ pe hP_ aP np P a (by first | assumption | omega)) (cwV 1 hts gX2_join_X2_isHead rfl rfl rfl (by decide +kernel) ⟨Nat.le_of_ble_eq_true rfl, Nat.le_of_ble_eq_true rfl⟩) hK hP [0, 1, 2] rfl rfl rfl rfl rfl hl.1 rfl (Nat.le_of_ble_eq_true rfl) ⟨Nat.zero_le _, Nat.zero_le _⟩ dX2_join_7 ?_
    refine lb_eq (tgt := 21) hx hb dX2_join_10 (by decide) (fun c_10 => ?_) (fun c_10 => ?_)
    · skip
      refine lv_iconst (v := 0) hx hb dX2_join_21 (by decide) ?_
      refine mu_zret hx hb hr hlocks hS dX2_join_22 ?_ ?_
      · simp [bI, okJ, c_2, c_10]
      have q0 : (fl 6 (joinT np P a b)) = (fl 6 P) := by unfold joinT; rw [if_neg (by simp [okJ, c_2, c_10])]
      rw [q0]
      exact hP
    · skip
      have c10 := c_10
      obtain ⟨ja, hja, rfl, ea⟩ := isHd_ex c10 hnp
      refine lv_aload_n hx hb dX2_join_13 rfl (lv_at hl 0 rfl) ?_
      refine lv_iload_n hx hb dX2_join_14 rfl (lv_at hl 2 rfl) ?_
      refine rcV (As := [.int b]) (rest := []) (ci := 2) ⟨hx, hb, hml, hown, hts⟩ (kX2_isHead l D cI cZ pe hP_ aP np P b (by first | assumption | omega)) (cwV 1 hts gX2_join_X2_isHead rfl rfl rfl (by decide +kernel) ⟨Nat.le_of_ble_eq_true rfl, Nat.le_of_ble_eq_true rfl⟩) hK hP [0, 1, 2] rfl rfl rfl rfl rfl hl.1 rfl (Nat.le_of_ble_eq_true rfl) ⟨Nat.zero_le _, Nat.zero_le _⟩ dX2_join_15 ?_
      refine lb_ne (tgt := 23) hx hb dX2_join_18 (by decide) (fun c_18 => ?_) (fun c_18 => ?_)
      · skip
        have c18 := c_18
        obtain ⟨jb, hjb, rfl, eb⟩ := isHd_ex c18 hnp
        refine lv_aload_n hx hb dX2_join_23 rfl (lv_at hl 0 rfl) ?_
        refine va_get (D := D) (ci := 2) (v := .ref hP_) (C := RX2) (T := TX2) (N := 1) hx hb hts hin2 hown hK hP 0 rfl rfl 0 (by decide) hf16 (fun _ h9 => h9) rfl dX2_join_24 ?_
        refine lv_iload_n hx hb dX2_join_27 rfl (lv_at hl 2 rfl) ?_
        refine lv_iconst (v := 4) hx hb dX2_join_28 (by decide) ?_
        refine lv_iload_n hx hb dX2_join_29 rfl (lv_at hl 1 rfl) ?_
        refine mcV (As := [.int ((nI jb)), .int 4, .int ((nI ja))]) (rest := []) (ci := 3) (wn := [(pe, .inr (2, [.ref hP_])), (hP_, .inr (3, [.int (nI 24), .int (nI 6), .ref aP, .int (nI np)])), (aP, .inl (cI, 24 * 6, .inl (fl 6 (tput np 6 P (nI jb) 4 (nI ja)))))]) ⟨hx, hb, hml, hown, hts⟩ (kX3_put l D cI cZ hP_ aP 24 6 np P (nI jb) 4 (nI ja) (by first | assumption | omega)) (cwV 3 hts gX2_join_X3_put rfl rfl rfl (by decide +kernel) ⟨Nat.le_of_ble_eq_true rfl, Nat.le_of_ble_eq_true rfl⟩) hK hP hD hS [1, 2] rfl rfl rfl rfl rfl rfl rfl rfl rfl hl.1 rfl (Nat.le_of_ble_eq_true rfl) ⟨Nat.zero_le _, Nat.zero_le _⟩ dX2_join_30 (fun H locs hP hD hS => ?_)
        refine W.eq (g2 := F0 mm 33 ls []) rfl ?_
        refine lv_aload_n hx hb dX2_join_33 rfl (lv_at hl 0 rfl) ?_
        refine lv_iload_n hx hb dX2_join_34 rfl (lv_at hl 1 rfl) ?_
        refine rcV (As := [.int ((nI ja))]) (rest := []) (ci := 2) ⟨hx, hb, hml, hown, hts⟩ (kX2_isStruckOut l D cI cZ pe hP_ aP np (tput np 6 P (nI jb) 4 (nI ja)) (nI ja) (by first | assumption | omega)) (cwV 1 hts gX2_join_X2_isStruckOut rfl rfl rfl (by decide +kernel) ⟨Nat.le_of_ble_eq_true rfl, Nat.le_of_ble_eq_true rfl⟩) hK hP [0, 1, 2] rfl rfl rfl rfl rfl hl.1 rfl (Nat.le_of_ble_eq_true rfl) ⟨Nat.zero_le _, Nat.zero_le _⟩ dX2_join_35 ?_
        refine lb_ne (tgt := 49) hx hb dX2_join_38 (by decide) (fun c_38 => ?_) (fun c_38 => ?_)
        · skip
          refine lv_aload_n hx hb dX2_join_49 rfl (lv_at hl 0 rfl) ?_
          refine lv_iload_n hx hb dX2_join_50 rfl (lv_at hl 1 rfl) ?_
          refine mcV (As := [.int ((nI ja))]) (rest := []) (ci := 2) (wn := [(pe, .inr (2, [.ref hP_])), (hP_, .inr (3, [.int (nI 24), .int (nI 6), .ref aP, .int (nI np)])), (aP, .inl (cI, 24 * 6, .inl (fl 6 (strk np (tput np 6 P (nI jb) 4 (nI ja)) ja 24))))]) ⟨hx, hb, hml, hown, hts⟩ (kX2_strikeOutAllUnder l D cI cZ pe hP_ aP np (tput np 6 P (nI jb) 4 (nI ja)) ja (by first | assumption | omega) (hw.joinT hnp hja hjb c_2 ea eb) (by omega)) (cwV 1 hts gX2_join_X2_strikeOutAllUnder rfl rfl rfl (by decide +kernel) ⟨Nat.le_of_ble_eq_true rfl, Nat.le_of_ble_eq_true rfl⟩) hK hP hD hS [0, 1, 2] rfl rfl rfl rfl rfl rfl rfl rfl rfl hl.1 rfl (Nat.le_of_ble_eq_true rfl) ⟨Nat.zero_le _, Nat.zero_le _⟩ dX2_join_51 (fun H locs hP hD hS => ?_)
          refine W.eq (g2 := F0 mm 54 ls []) rfl ?_
          refine lv_iconst (v := 1) hx hb dX2_join_54 (by decide) ?_
          refine mu_zret hx hb hr hlocks hS dX2_join_55 ?_ ?_
          · simp [bI, okJ, c_2, c_10, c_18, c_38]
          have q0 : (fl 6 (joinT np P (nI ja) (nI jb))) = (fl 6 (strk np (tput np 6 P (nI jb) 4 (nI ja)) ja 24)) := by unfold joinT; rw [if_pos (by simp [okJ, c_2, c_10, c_18, c_38]), if_pos (by simp [c_2, c_10, c_18, c_38]), nI_clamp (by omega)]
          rw [q0]
          exact hP
        · skip
          refine lv_aload_n hx hb dX2_join_41 rfl (lv_at hl 0 rfl) ?_
          refine lv_iload_n hx hb dX2_join_42 rfl (lv_at hl 2 rfl) ?_
          refine rcV (As := [.int ((nI jb))]) (rest := []) (ci := 2) ⟨hx, hb, hml, hown, hts⟩ (kX2_isStruckOut l D cI cZ pe hP_ aP np (tput np 6 P (nI jb) 4 (nI ja)) (nI jb) (by first | assumption | omega)) (cwV 1 hts gX2_join_X2_isStruckOut rfl rfl rfl (by decide +kernel) ⟨Nat.le_of_ble_eq_true rfl, Nat.le_of_ble_eq_true rfl⟩) hK hP [0, 1, 2] rfl rfl rfl rfl rfl hl.1 rfl (Nat.le_of_ble_eq_true rfl) ⟨Nat.zero_le _, Nat.zero_le _⟩ dX2_join_43 ?_
          refine lb_eq (tgt := 54) hx hb dX2_join_46 (by decide) (fun c_46 => ?_) (fun c_46 => ?_)
          · skip
            refine lv_iconst (v := 1) hx hb dX2_join_54 (by decide) ?_
            refine mu_zret hx hb hr hlocks hS dX2_join_55 ?_ ?_
            · simp [bI, okJ, c_2, c_10, c_18, c_38, c_46]
            have q0 : (fl 6 (joinT np P (nI ja) (nI jb))) = (fl 6 (tput np 6 P (nI jb) 4 (nI ja))) := by unfold joinT; rw [if_pos (by simp [okJ, c_2, c_10, c_18, c_38, c_46]), if_neg (by simp [c_2, c_10, c_18, c_38, c_46])]
            rw [q0]
            exact hP
          · skip
            refine lv_aload_n hx hb dX2_join_49 rfl (lv_at hl 0 rfl) ?_
            refine lv_iload_n hx hb dX2_join_50 rfl (lv_at hl 1 rfl) ?_
            refine mcV (As := [.int ((nI ja))]) (rest := []) (ci := 2) (wn := [(pe, .inr (2, [.ref hP_])), (hP_, .inr (3, [.int (nI 24), .int (nI 6), .ref aP, .int (nI np)])), (aP, .inl (cI, 24 * 6, .inl (fl 6 (strk np (tput np 6 P (nI jb) 4 (nI ja)) ja 24))))]) ⟨hx, hb, hml, hown, hts⟩ (kX2_strikeOutAllUnder l D cI cZ pe hP_ aP np (tput np 6 P (nI jb) 4 (nI ja)) ja (by first | assumption | omega) (hw.joinT hnp hja hjb c_2 ea eb) (by omega)) (cwV 1 hts gX2_join_X2_strikeOutAllUnder rfl rfl rfl (by decide +kernel) ⟨Nat.le_of_ble_eq_true rfl, Nat.le_of_ble_eq_true rfl⟩) hK hP hD hS [0, 1, 2] rfl rfl rfl rfl rfl rfl rfl rfl rfl hl.1 rfl (Nat.le_of_ble_eq_true rfl) ⟨Nat.zero_le _, Nat.zero_le _⟩ dX2_join_51 (fun H locs hP hD hS => ?_)
            refine W.eq (g2 := F0 mm 54 ls []) rfl ?_
            refine lv_iconst (v := 1) hx hb dX2_join_54 (by decide) ?_
            refine mu_zret hx hb hr hlocks hS dX2_join_55 ?_ ?_
            · simp [bI, okJ, c_2, c_10, c_18, c_38, c_46]
            have q0 : (fl 6 (joinT np P (nI ja) (nI jb))) = (fl 6 (strk np (tput np 6 P (nI jb) 4 (nI ja)) ja 24)) := by unfold joinT; rw [if_pos (by simp [okJ, c_2, c_10, c_18, c_38, c_46]), if_pos (by simp [c_2, c_10, c_18, c_38, c_46]), nI_clamp (by omega)]
            rw [q0]
            exact hP
      · skip
        refine lv_iconst (v := 0) hx hb dX2_join_21 (by decide) ?_
        refine mu_zret hx hb hr hlocks hS dX2_join_22 ?_ ?_
        · simp [bI, okJ, c_2, c_10, c_18]
        have q0 : (fl 6 (joinT np P (nI ja) b)) = (fl 6 P) := by unfold joinT; rw [if_neg (by simp [okJ, c_2, c_10, c_18])]
        rw [q0]
        exact hP
end
section
/-! plain rows of the houses and the names -/
def okH (kind span seed reasons least : Int32) : Bool := inB kind 0 2 && inB span 1 365 && inB seed 1 9972 && inB reasons 0 255 && inB least 0 24
theorem lt9973 (m : Int32) : (m < 9973) = ¬ (9972 < m) := by
  rw [fa_lt, fa_lt]
  have h4 : (9973 : Int32).toInt = 9973 := by decide
  have h3 : (9972 : Int32).toInt = 9972 := by decide
  rw [h4, h3]
  exact propext (by omega)
theorem le24 (m : Int32) : (m ≤ 24) = ¬ (24 < m) := by
  rw [fa_lt, fa_le]
  exact propext (by omega)
def haddT (nh : Nat) (G : Nat → Nat → Int32) (a b c d e : Int32) : Nat → Nat → Int32 := tput (adn 5 nh) 6 (tput (adn 5 nh) 6 (tput (adn 5 nh) 6 (tput (adn 5 nh) 6 (tput (adn 5 nh) 6 (tput (adn 5 nh) 6 G (arow 5 nh) 0 a) (arow 5 nh) 1 b) (arow 5 nh) 2 c) (arow 5 nh) 3 d) (arow 5 nh) 4 e) (arow 5 nh) 5 0
def naddT (nn : Nat) (N : Nat → Nat → Int32) (a b c d e : Int32) : Nat → Nat → Int32 := tput (adn 200 nn) 5 (tput (adn 200 nn) 5 (tput (adn 200 nn) 5 (tput (adn 200 nn) 5 (tput (adn 200 nn) 5 N (arow 200 nn) 0 a) (arow 200 nn) 1 b) (arow 200 nn) 2 c) (arow 200 nn) 3 d) (arow 200 nn) 4 e
def remI (x y : Int32) : Int32 := x - x / y * y
def spN (nh : Nat) (G : Nat → Nat → Int32) (h day k : Int32) : Int32 := if tat nh 6 G h 0 = 2 then k else if tat nh 6 G h 0 = 1 ∧ ¬ tat nh 6 G h 1 ≤ 0 then day / tat nh 6 G h 1 else 0
def fsI (f : Nat → Bool) : Nat → Int32
  | 0 => -1
  | n + 1 => if fsI f n = -1 then (if f n = true then nI n else -1) else fsI f n
theorem fsI_none {f : Nat → Bool} : ∀ {n : Nat}, (∀ j, j < n → f j = false) → fsI f n = -1
  | 0, _ => rfl
  | n + 1, h => by simp [fsI, fsI_none (fun j hj => h j (Nat.lt_succ_of_lt hj)), h n (Nat.lt_succ_self n)]
theorem fsI_some {f : Nat → Bool} {i : Nat} (h : ∀ j, j < i → f j = false) (hi : f i = true) (hb : i < 2 ^ 31) : ∀ {n : Nat}, i < n → fsI f n = nI i
  | 0, h2 => absurd h2 (Nat.not_lt_zero _)
  | n + 1, h2 => by
    rcases Nat.lt_or_ge i n with q | q
    · have e := fsI_some h hi hb q
      rw [fsI, e, if_neg (m1_nI hb)]
    · have e : i = n := by omega
      subst e
      rw [fsI, fsI_none h, if_pos rfl, if_pos hi]
/-- the owner of a name -/
def ow (N : Nat → Nat → Int32) (i : Nat) : Nat := (N 2 i).toNatClampNeg
def HO (nn np : Nat) (N : Nat → Nat → Int32) : Prop := ∀ i, i < nn → N 2 i = nI (ow N i) ∧ ow N i < np
def fdB (N : Nat → Nat → Int32) (h nm : Int32) (i : Nat) : Bool := decide (N 0 i = h) && decide (N 1 i = nm)
def ffB (N : Nat → Nat → Int32) (w : Nat → Int32) (h sp hh : Int32) (i : Nat) : Bool := decide (N 0 i = h) && decide (N 4 i = sp) && decide (nI (hd w (ow N i)) = hh)
def knw (np : Nat) (P N : Nat → Nat → Int32) (h : Int32) : Nat → Int32
  | 0 => 0
  | i + 1 => if N 0 i = h ∧ isSt np P (nI (hd (P 4) (ow N i))) = false then knw np P N h i ||| (1 <<< (nI (hd (P 4) (ow N i)) &&& 31)) else knw np P N h i
theorem noS {f : Nat → Bool} {i : Nat} (h : ∀ j, j < i → f j = false) (hi : f i = false) : ∀ j, j < i + 1 → f j = false := fun j hj => by
  rcases Nat.lt_or_ge j i with q | q
  · exact h j q
  · have e : j = i := by omega
    rw [e]; exact hi
end
section
set_option maxHeartbeats 4000000 in
set_option maxRecDepth 100000 in
theorem kX0_size (l : Launch) (D : va_G) (cI cZ : ClassId) (ho hH aH nh : Nat) (G : Nat → Nat → Int32) (hnh : nh ≤ 5) : Met l yX0_size wsX0_size ({ frames := 1, cells := 0, slots := 0, locals := 20 } : Room) (RdP D [(cI, .int), (cZ, .boolean)] [.ref ho] [(ho, .inr (0, [.ref hH])), (hH, .inr (3, [.int (nI 5), .int (nI 6), .ref aH, .int (nI nh)])), (aH, .inl (cI, 5 * 6, .inl (fl 6 G)))]) (QcRead (nI nh)) 0 0 (fun _ => False) := by
  refine rd_of (cc := cX0_size) (maxL := 1) (ret := (some .int)) (by decide) rfl (Nat.le_of_ble_eq_true rfl) ?_
  intro pp ee ss mm bw me cd ls hx hb hr hts hown hlocks hml hP hK hl
  have hl : lv_has ls 1 [(0, .ref ho)] := hl
  have hf16 := hts (.fieldLink RX0 16 "OtherNames$Houses" "rows" "LOtherNames$Rows;") (by decide +kernel)
  have hin0 := (show ∀ w ∈ wsX00, w ∈ wsX0_size by decide +kernel)
  refine lv_aload_n hx hb dX0_size_0 rfl (lv_at hl 0 rfl) ?_
  refine va_get (D := D) (ci := 0) (v := .ref hH) (C := RX0) (T := TX0) (N := 1) hx hb hts hin0 hown hK hP 0 rfl rfl 0 (by decide) hf16 (fun _ h9 => h9) rfl dX0_size_1 ?_
  refine rcV (As := []) (rest := []) (ci := 3) ⟨hx, hb, hml, hown, hts⟩ (kX3_size l D cI cZ hH aH 5 6 nh G (by first | assumption | omega)) (cwV 0 hts gX0_size_X3_size rfl rfl rfl (by decide +kernel) ⟨Nat.le_of_ble_eq_true rfl, Nat.le_of_ble_eq_true rfl⟩) hK hP [1, 2] rfl rfl rfl rfl rfl hl.1 rfl (Nat.le_of_ble_eq_true rfl) ⟨Nat.zero_le _, Nat.zero_le _⟩ dX0_size_4 ?_
  exact rd_iret hx hb hr hlocks dX0_size_7 (by rfl)
set_option maxHeartbeats 4000000 in
set_option maxRecDepth 100000 in
theorem kX0_isThere (l : Launch) (D : va_G) (cI cZ : ClassId) (ho hH aH nh : Nat) (G : Nat → Nat → Int32) (h : Int32) (hnh : nh ≤ 5) : Met l yX0_isThere wsX0_isThere ({ frames := 1, cells := 0, slots := 0, locals := 21 } : Room) (RdP D [(cI, .int), (cZ, .boolean)] [.ref ho, .int h] [(ho, .inr (0, [.ref hH])), (hH, .inr (3, [.int (nI 5), .int (nI 6), .ref aH, .int (nI nh)])), (aH, .inl (cI, 5 * 6, .inl (fl 6 G)))]) (QcRead (bI (inR nh h))) 0 0 (fun _ => False) := by
  refine rd_of (cc := cX0_isThere) (maxL := 2) (ret := (some .boolean)) (by decide) rfl (Nat.le_of_ble_eq_true rfl) ?_
  intro pp ee ss mm bw me cd ls hx hb hr hts hown hlocks hml hP hK hl
  have hl : lv_has ls 2 [(0, .ref ho), (1, .int h)] := hl
  have hf16 := hts (.fieldLink RX0 16 "OtherNames$Houses" "rows" "LOtherNames$Rows;") (by decide +kernel)
  have hin0 := (show ∀ w ∈ wsX00, w ∈ wsX0_isThere by decide +kernel)
  refine lv_aload_n hx hb dX0_isThere_0 rfl (lv_at hl 0 rfl) ?_
  refine va_get (D := D) (ci := 0) (v := .ref hH) (C := RX0) (T := TX0) (N := 1) hx hb hts hin0 hown hK hP 0 rfl rfl 0 (by decide) hf16 (fun _ h9 => h9) rfl dX0_isThere_1 ?_
  refine lv_iload_n hx hb dX0_isThere_4 rfl (lv_at hl 1 rfl) ?_
  refine rcV (As := [.int h]) (rest := []) (ci := 3) ⟨hx, hb, hml, hown, hts⟩ (kX3_isThere l D cI cZ hH aH 5 6 nh G h (by first | assumption | omega)) (cwV 1 hts gX0_isThere_X3_isThere rfl rfl rfl (by decide +kernel) ⟨Nat.le_of_ble_eq_true rfl, Nat.le_of_ble_eq_true rfl⟩) hK hP [1, 2] rfl rfl rfl rfl rfl hl.1 rfl (Nat.le_of_ble_eq_true rfl) ⟨Nat.zero_le _, Nat.zero_le _⟩ dX0_isThere_5 ?_
  exact rd_zret hx hb hr hlocks dX0_isThere_8 (by rfl)
set_option maxHeartbeats 4000000 in
set_option maxRecDepth 100000 in
theorem kX0_isSpanned (l : Launch) (D : va_G) (cI cZ : ClassId) (ho hH aH nh : Nat) (G : Nat → Nat → Int32) (h : Int32) (hnh : nh ≤ 5) : Met l yX0_isSpanned wsX0_isSpanned ({ frames := 2, cells := 0, slots := 0, locals := 44 } : Room) (RdP D [(cI, .int), (cZ, .boolean)] [.ref ho, .int h] [(ho, .inr (0, [.ref hH])), (hH, .inr (3, [.int (nI 5), .int (nI 6), .ref aH, .int (nI nh)])), (aH, .inl (cI, 5 * 6, .inl (fl 6 G)))]) (QcRead (bI (decide (tat nh 6 G h 0 = 1)))) 0 0 (fun _ => False) := by
  refine rd_of (cc := cX0_isSpanned) (maxL := 2) (ret := (some .boolean)) (by decide) rfl (Nat.le_of_ble_eq_true rfl) ?_
  intro pp ee ss mm bw me cd ls hx hb hr hts hown hlocks hml hP hK hl
  have hl : lv_has ls 2 [(0, .ref ho), (1, .int h)] := hl
  have hf16 := hts (.fieldLink RX0 16 "OtherNames$Houses" "rows" "LOtherNames$Rows;") (by decide +kernel)
  have hin0 := (show ∀ w ∈ wsX00, w ∈ wsX0_isSpanned by decide +kernel)
  refine lv_aload_n hx hb dX0_isSpanned_0 rfl (lv_at hl 0 rfl) ?_
  refine va_get (D := D) (ci := 0) (v := .ref hH) (C := RX0) (T := TX0) (N := 1) hx hb hts hin0 hown hK hP 0 rfl rfl 0 (by decide) hf16 (fun _ h9 => h9) rfl dX0_isSpanned_1 ?_
  refine lv_iload_n hx hb dX0_isSpanned_4 rfl (lv_at hl 1 rfl) ?_
  refine lv_iconst (v := 0) hx hb dX0_isSpanned_5 (by decide) ?_
  refine rcV (As := [.int h, .int 0]) (rest := []) (ci := 3) ⟨hx, hb, hml, hown, hts⟩ (kX3_at l D cI cZ hH aH 5 6 nh G h 0 (by first | assumption | omega)) (cwV 2 hts gX0_isSpanned_X3_at rfl rfl rfl (by decide +kernel) ⟨Nat.le_of_ble_eq_true rfl, Nat.le_of_ble_eq_true rfl⟩) hK hP [1, 2] rfl rfl rfl rfl rfl hl.1 rfl (Nat.le_of_ble_eq_true rfl) ⟨Nat.zero_le _, Nat.zero_le _⟩ dX0_isSpanned_6 ?_
  refine lv_iconst (v := 1) hx hb dX0_isSpanned_9 (by decide) ?_
  refine lv_icmp_ne (tgt := 17) hx hb dX0_isSpanned_10 (by decide) (fun c_10 => ?_) (fun c_10 => ?_)
  · skip
    refine lv_iconst (v := 0) hx hb dX0_isSpanned_17 (by decide) ?_
    exact rd_zret hx hb hr hlocks dX0_isSpanned_18 (by simp [bI, c_10])
  · skip
    refine lv_iconst (v := 1) hx hb dX0_isSpanned_13 (by decide) ?_
    refine lv_goto (tgt := 18) hx hb dX0_isSpanned_14 (by decide) ?_
    exact rd_zret hx hb hr hlocks dX0_isSpanned_18 (by simp [bI, c_10])
set_option maxHeartbeats 4000000 in
set_option maxRecDepth 100000 in
theorem kX0_seedOf (l : Launch) (D : va_G) (cI cZ : ClassId) (ho hH aH nh : Nat) (G : Nat → Nat → Int32) (h : Int32) (hnh : nh ≤ 5) : Met l yX0_seedOf wsX0_seedOf ({ frames := 2, cells := 0, slots := 0, locals := 44 } : Room) (RdP D [(cI, .int), (cZ, .boolean)] [.ref ho, .int h] [(ho, .inr (0, [.ref hH])), (hH, .inr (3, [.int (nI 5), .int (nI 6), .ref aH, .int (nI nh)])), (aH, .inl (cI, 5 * 6, .inl (fl 6 G)))]) (QcRead (tat nh 6 G h 2)) 0 0 (fun _ => False) := by
  refine rd_of (cc := cX0_seedOf) (maxL := 2) (ret := (some .int)) (by decide) rfl (Nat.le_of_ble_eq_true rfl) ?_
  intro pp ee ss mm bw me cd ls hx hb hr hts hown hlocks hml hP hK hl
  have hl : lv_has ls 2 [(0, .ref ho), (1, .int h)] := hl
  have hf16 := hts (.fieldLink RX0 16 "OtherNames$Houses" "rows" "LOtherNames$Rows;") (by decide +kernel)
  have hin0 := (show ∀ w ∈ wsX00, w ∈ wsX0_seedOf by decide +kernel)
  refine lv_aload_n hx hb dX0_seedOf_0 rfl (lv_at hl 0 rfl) ?_
  refine va_get (D := D) (ci := 0) (v := .ref hH) (C := RX0) (T := TX0) (N := 1) hx hb hts hin0 hown hK hP 0 rfl rfl 0 (by decide) hf16 (fun _ h9 => h9) rfl dX0_seedOf_1 ?_
  refine lv_iload_n hx hb dX0_seedOf_4 rfl (lv_at hl 1 rfl) ?_
  refine lv_iconst (v := 2) hx hb dX0_seedOf_5 (by decide) ?_
  refine rcV (As := [.int h, .int 2]) (rest := []) (ci := 3) ⟨hx, hb, hml, hown, hts⟩ (kX3_at l D cI cZ hH aH 5 6 nh G h 2 (by first | assumption | omega)) (cwV 2 hts gX0_seedOf_X3_at rfl rfl rfl (by decide +kernel) ⟨Nat.le_of_ble_eq_true rfl, Nat.le_of_ble_eq_true rfl⟩) hK hP [1, 2] rfl rfl rfl rfl rfl hl.1 rfl (Nat.le_of_ble_eq_true rfl) ⟨Nat.zero_le _, Nat.zero_le _⟩ dX0_seedOf_6 ?_
  exact rd_iret hx hb hr hlocks dX0_seedOf_9 (by rfl)
set_option maxHeartbeats 4000000 in
set_option maxRecDepth 100000 in
theorem kX0_leastOf (l : Launch) (D : va_G) (cI cZ : ClassId) (ho hH aH nh : Nat) (G : Nat → Nat → Int32) (h : Int32) (hnh : nh ≤ 5) : Met l yX0_leastOf wsX0_leastOf ({ frames := 2, cells := 0, slots := 0, locals := 44 } : Room) (RdP D [(cI, .int), (cZ, .boolean)] [.ref ho, .int h] [(ho, .inr (0, [.ref hH])), (hH, .inr (3, [.int (nI 5), .int (nI 6), .ref aH, .int (nI nh)])), (aH, .inl (cI, 5 * 6, .inl (fl 6 G)))]) (QcRead (tat nh 6 G h 4)) 0 0 (fun _ => False) := by
  refine rd_of (cc := cX0_leastOf) (maxL := 2) (ret := (some .int)) (by decide) rfl (Nat.le_of_ble_eq_true rfl) ?_
  intro pp ee ss mm bw me cd ls hx hb hr hts hown hlocks hml hP hK hl
  have hl : lv_has ls 2 [(0, .ref ho), (1, .int h)] := hl
  have hf16 := hts (.fieldLink RX0 16 "OtherNames$Houses" "rows" "LOtherNames$Rows;") (by decide +kernel)
  have hin0 := (show ∀ w ∈ wsX00, w ∈ wsX0_leastOf by decide +kernel)
  refine lv_aload_n hx hb dX0_leastOf_0 rfl (lv_at hl 0 rfl) ?_
  refine va_get (D := D) (ci := 0) (v := .ref hH) (C := RX0) (T := TX0) (N := 1) hx hb hts hin0 hown hK hP 0 rfl rfl 0 (by decide) hf16 (fun _ h9 => h9) rfl dX0_leastOf_1 ?_
  refine lv_iload_n hx hb dX0_leastOf_4 rfl (lv_at hl 1 rfl) ?_
  refine lv_iconst (v := 4) hx hb dX0_leastOf_5 (by decide) ?_
  refine rcV (As := [.int h, .int 4]) (rest := []) (ci := 3) ⟨hx, hb, hml, hown, hts⟩ (kX3_at l D cI cZ hH aH 5 6 nh G h 4 (by first | assumption | omega)) (cwV 2 hts gX0_leastOf_X3_at rfl rfl rfl (by decide +kernel) ⟨Nat.le_of_ble_eq_true rfl, Nat.le_of_ble_eq_true rfl⟩) hK hP [1, 2] rfl rfl rfl rfl rfl hl.1 rfl (Nat.le_of_ble_eq_true rfl) ⟨Nat.zero_le _, Nat.zero_le _⟩ dX0_leastOf_6 ?_
  exact rd_iret hx hb hr hlocks dX0_leastOf_9 (by rfl)
set_option maxHeartbeats 4000000 in
set_option maxRecDepth 100000 in
theorem kX0_reasonCounts (l : Launch) (D : va_G) (cI cZ : ClassId) (ho hH aH nh : Nat) (G : Nat → Nat → Int32) (h : Int32) (r : Int32) (hnh : nh ≤ 5) : Met l yX0_reasonCounts wsX0_reasonCounts ({ frames := 2, cells := 0, slots := 0, locals := 44 } : Room) (RdP D [(cI, .int), (cZ, .boolean)] [.ref ho, .int h, .int r] [(ho, .inr (0, [.ref hH])), (hH, .inr (3, [.int (nI 5), .int (nI 6), .ref aH, .int (nI nh)])), (aH, .inl (cI, 5 * 6, .inl (fl 6 G)))]) (QcRead (bI (isAm (tat nh 6 G h 3) r))) 0 0 (fun _ => False) := by
  refine rd_of (cc := cX0_reasonCounts) (maxL := 3) (ret := (some .boolean)) (by decide) rfl (Nat.le_of_ble_eq_true rfl) ?_
  intro pp ee ss mm bw me cd ls hx hb hr hts hown hlocks hml hP hK hl
  have hl : lv_has ls 3 [(0, .ref ho), (1, .int h), (2, .int r)] := hl
  have hf16 := hts (.fieldLink RX0 16 "OtherNames$Houses" "rows" "LOtherNames$Rows;") (by decide +kernel)
  have hin0 := (show ∀ w ∈ wsX00, w ∈ wsX0_reasonCounts by decide +kernel)
  refine lv_aload_n hx hb dX0_reasonCounts_0 rfl (lv_at hl 0 rfl) ?_
  refine va_get (D := D) (ci := 0) (v := .ref hH) (C := RX0) (T := TX0) (N := 1) hx hb hts hin0 hown hK hP 0 rfl rfl 0 (by decide) hf16 (fun _ h9 => h9) rfl dX0_reasonCounts_1 ?_
  refine lv_iload_n hx hb dX0_reasonCounts_4 rfl (lv_at hl 1 rfl) ?_
  refine lv_iconst (v := 3) hx hb dX0_reasonCounts_5 (by decide) ?_
  refine rcV (As := [.int h, .int 3]) (rest := []) (ci := 3) ⟨hx, hb, hml, hown, hts⟩ (kX3_at l D cI cZ hH aH 5 6 nh G h 3 (by first | assumption | omega)) (cwV 2 hts gX0_reasonCounts_X3_at rfl rfl rfl (by decide +kernel) ⟨Nat.le_of_ble_eq_true rfl, Nat.le_of_ble_eq_true rfl⟩) hK hP [1, 2] rfl rfl rfl rfl rfl hl.1 rfl (Nat.le_of_ble_eq_true rfl) ⟨Nat.zero_le _, Nat.zero_le _⟩ dX0_reasonCounts_6 ?_
  refine lv_iload_n hx hb dX0_reasonCounts_9 rfl (lv_at hl 2 rfl) ?_
  refine lv_ishr hx hb dX0_reasonCounts_10 ?_
  refine lv_iconst (v := 1) hx hb dX0_reasonCounts_11 (by decide) ?_
  refine lv_iand hx hb dX0_reasonCounts_12 ?_
  refine lv_iconst (v := 1) hx hb dX0_reasonCounts_13 (by decide) ?_
  refine lv_icmp_ne (tgt := 21) hx hb dX0_reasonCounts_14 (by decide) (fun c_14 => ?_) (fun c_14 => ?_)
  · skip
    refine lv_iconst (v := 0) hx hb dX0_reasonCounts_21 (by decide) ?_
    exact rd_zret hx hb hr hlocks dX0_reasonCounts_22 (by simp [bI, isAm, c_14])
  · skip
    refine lv_iconst (v := 1) hx hb dX0_reasonCounts_17 (by decide) ?_
    refine lv_goto (tgt := 22) hx hb dX0_reasonCounts_18 (by decide) ?_
    exact rd_zret hx hb hr hlocks dX0_reasonCounts_22 (by simp [bI, isAm, c_14])
set_option maxHeartbeats 4000000 in
set_option maxRecDepth 100000 in
theorem kX0_isLost (l : Launch) (D : va_G) (cI cZ : ClassId) (ho hH aH nh : Nat) (G : Nat → Nat → Int32) (h : Int32) (hnh : nh ≤ 5) : Met l yX0_isLost wsX0_isLost ({ frames := 2, cells := 0, slots := 0, locals := 44 } : Room) (RdP D [(cI, .int), (cZ, .boolean)] [.ref ho, .int h] [(ho, .inr (0, [.ref hH])), (hH, .inr (3, [.int (nI 5), .int (nI 6), .ref aH, .int (nI nh)])), (aH, .inl (cI, 5 * 6, .inl (fl 6 G)))]) (QcRead (bI (decide (tat nh 6 G h 5 = 1)))) 0 0 (fun _ => False) := by
  refine rd_of (cc := cX0_isLost) (maxL := 2) (ret := (some .boolean)) (by decide) rfl (Nat.le_of_ble_eq_true rfl) ?_
  intro pp ee ss mm bw me cd ls hx hb hr hts hown hlocks hml hP hK hl
  have hl : lv_has ls 2 [(0, .ref ho), (1, .int h)] := hl
  have hf16 := hts (.fieldLink RX0 16 "OtherNames$Houses" "rows" "LOtherNames$Rows;") (by decide +kernel)
  have hin0 := (show ∀ w ∈ wsX00, w ∈ wsX0_isLost by decide +kernel)
  refine lv_aload_n hx hb dX0_isLost_0 rfl (lv_at hl 0 rfl) ?_
  refine va_get (D := D) (ci := 0) (v := .ref hH) (C := RX0) (T := TX0) (N := 1) hx hb hts hin0 hown hK hP 0 rfl rfl 0 (by decide) hf16 (fun _ h9 => h9) rfl dX0_isLost_1 ?_
  refine lv_iload_n hx hb dX0_isLost_4 rfl (lv_at hl 1 rfl) ?_
  refine lv_iconst (v := 5) hx hb dX0_isLost_5 (by decide) ?_
  refine rcV (As := [.int h, .int 5]) (rest := []) (ci := 3) ⟨hx, hb, hml, hown, hts⟩ (kX3_at l D cI cZ hH aH 5 6 nh G h 5 (by first | assumption | omega)) (cwV 2 hts gX0_isLost_X3_at rfl rfl rfl (by decide +kernel) ⟨Nat.le_of_ble_eq_true rfl, Nat.le_of_ble_eq_true rfl⟩) hK hP [1, 2] rfl rfl rfl rfl rfl hl.1 rfl (Nat.le_of_ble_eq_true rfl) ⟨Nat.zero_le _, Nat.zero_le _⟩ dX0_isLost_6 ?_
  refine lv_iconst (v := 1) hx hb dX0_isLost_9 (by decide) ?_
  refine lv_icmp_ne (tgt := 17) hx hb dX0_isLost_10 (by decide) (fun c_10 => ?_) (fun c_10 => ?_)
  · skip
    refine lv_iconst (v := 0) hx hb dX0_isLost_17 (by decide) ?_
    exact rd_zret hx hb hr hlocks dX0_isLost_18 (by simp [bI, c_10])
  · skip
    refine lv_iconst (v := 1) hx hb dX0_isLost_13 (by decide) ?_
    refine lv_goto (tgt := 18) hx hb dX0_isLost_14 (by decide) ?_
    exact rd_zret hx hb hr hlocks dX0_isLost_18 (by simp [bI, c_10])
set_option maxHeartbeats 4000000 in
set_option maxRecDepth 100000 in
theorem kX0_nameNumber (l : Launch) (D : va_G) (cI cZ : ClassId) (ho hH aH nh : Nat) (G : Nat → Nat → Int32) (h : Int32) (k : Int32) (hnh : nh ≤ 5) : Met l yX0_nameNumber wsX0_nameNumber ({ frames := 3, cells := 0, slots := 0, locals := 65 } : Room) (RdP D [(cI, .int), (cZ, .boolean)] [.ref ho, .int h, .int k] [(ho, .inr (0, [.ref hH])), (hH, .inr (3, [.int (nI 5), .int (nI 6), .ref aH, .int (nI nh)])), (aH, .inl (cI, 5 * 6, .inl (fl 6 G)))]) (QcRead (remI (tat nh 6 G h 2 * k) 9973)) 0 0 (fun _ => False) := by
  refine rd_of (cc := cX0_nameNumber) (maxL := 3) (ret := (some .int)) (by decide) rfl (Nat.le_of_ble_eq_true rfl) ?_
  intro pp ee ss mm bw me cd ls hx hb hr hts hown hlocks hml hP hK hl
  have hl : lv_has ls 3 [(0, .ref ho), (1, .int h), (2, .int k)] := hl
  refine lv_aload_n hx hb dX0_nameNumber_0 rfl (lv_at hl 0 rfl) ?_
  refine lv_iload_n hx hb dX0_nameNumber_1 rfl (lv_at hl 1 rfl) ?_
  refine rcV (As := [.int h]) (rest := []) (ci := 0) ⟨hx, hb, hml, hown, hts⟩ (kX0_seedOf l D cI cZ ho hH aH nh G h (by first | assumption | omega)) (cwV 1 hts gX0_nameNumber_X0_seedOf rfl rfl rfl (by decide +kernel) ⟨Nat.le_of_ble_eq_true rfl, Nat.le_of_ble_eq_true rfl⟩) hK hP [0, 1, 2] rfl rfl rfl rfl rfl hl.1 rfl (Nat.le_of_ble_eq_true rfl) ⟨Nat.zero_le _, Nat.zero_le _⟩ dX0_nameNumber_2 ?_
  refine lv_iload_n hx hb dX0_nameNumber_5 rfl (lv_at hl 2 rfl) ?_
  refine lv_imul hx hb dX0_nameNumber_6 ?_
  refine lv_sipush (v := 9973) hx hb dX0_nameNumber_7 (by decide) ?_
  refine lv_irem hx hb dX0_nameNumber_10 (by decide) ?_
  exact rd_iret hx hb hr hlocks dX0_nameNumber_11 (by rfl)
set_option maxHeartbeats 4000000 in
set_option maxRecDepth 100000 in
theorem kX0_spanNumber (l : Launch) (D : va_G) (cI cZ : ClassId) (ho hH aH nh : Nat) (G : Nat → Nat → Int32) (h : Int32) (day : Int32) (k : Int32) (hnh : nh ≤ 5) : Met l yX0_spanNumber wsX0_spanNumber ({ frames := 3, cells := 0, slots := 0, locals := 65 } : Room) (RdP D [(cI, .int), (cZ, .boolean)] [.ref ho, .int h, .int day, .int k] [(ho, .inr (0, [.ref hH])), (hH, .inr (3, [.int (nI 5), .int (nI 6), .ref aH, .int (nI nh)])), (aH, .inl (cI, 5 * 6, .inl (fl 6 G)))]) (QcRead (spN nh G h day k)) 0 0 (fun _ => False) := by
  refine rd_of (cc := cX0_spanNumber) (maxL := 5) (ret := (some .int)) (by decide) rfl (Nat.le_of_ble_eq_true rfl) ?_
  intro pp ee ss mm bw me cd ls hx hb hr hts hown hlocks hml hP hK hl
  have hl : lv_has ls 5 [(0, .ref ho), (1, .int h), (2, .int day), (3, .int k)] := hl
  have hf16 := hts (.fieldLink RX0 16 "OtherNames$Houses" "rows" "LOtherNames$Rows;") (by decide +kernel)
  have hin0 := (show ∀ w ∈ wsX00, w ∈ wsX0_spanNumber by decide +kernel)
  refine lv_aload_n hx hb dX0_spanNumber_0 rfl (lv_at hl 0 rfl) ?_
  refine va_get (D := D) (ci := 0) (v := .ref hH) (C := RX0) (T := TX0) (N := 1) hx hb hts hin0 hown hK hP 0 rfl rfl 0 (by decide) hf16 (fun _ h9 => h9) rfl dX0_spanNumber_1 ?_
  refine lv_iload_n hx hb dX0_spanNumber_4 rfl (lv_at hl 1 rfl) ?_
  refine lv_iconst (v := 0) hx hb dX0_spanNumber_5 (by decide) ?_
  refine rcV (As := [.int h, .int 0]) (rest := []) (ci := 3) ⟨hx, hb, hml, hown, hts⟩ (kX3_at l D cI cZ hH aH 5 6 nh G h 0 (by first | assumption | omega)) (cwV 2 hts gX0_spanNumber_X3_at rfl rfl rfl (by decide +kernel) ⟨Nat.le_of_ble_eq_true rfl, Nat.le_of_ble_eq_true rfl⟩) hK hP [1, 2] rfl rfl rfl rfl rfl hl.1 rfl (Nat.le_of_ble_eq_true rfl) ⟨Nat.zero_le _, Nat.zero_le _⟩ dX0_spanNumber_6 ?_
  refine lv_iconst (v := 2) hx hb dX0_spanNumber_9 (by decide) ?_
  refine lv_icmp_ne (tgt := 15) hx hb dX0_spanNumber_10 (by decide) (fun c_10 => ?_) (fun c_10 => ?_)
  · skip
    refine lv_aload_n hx hb dX0_spanNumber_15 rfl (lv_at hl 0 rfl) ?_
    refine va_get (D := D) (ci := 0) (v := .ref hH) (C := RX0) (T := TX0) (N := 1) hx hb hts hin0 hown hK hP 0 rfl rfl 0 (by decide) hf16 (fun _ h9 => h9) rfl dX0_spanNumber_16 ?_
    refine lv_iload_n hx hb dX0_spanNumber_19 rfl (lv_at hl 1 rfl) ?_
    refine lv_iconst (v := 1) hx hb dX0_spanNumber_20 (by decide) ?_
    refine rcV (As := [.int h, .int 1]) (rest := []) (ci := 3) ⟨hx, hb, hml, hown, hts⟩ (kX3_at l D cI cZ hH aH 5 6 nh G h 1 (by first | assumption | omega)) (cwV 2 hts gX0_spanNumber_X3_at rfl rfl rfl (by decide +kernel) ⟨Nat.le_of_ble_eq_true rfl, Nat.le_of_ble_eq_true rfl⟩) hK hP [1, 2] rfl rfl rfl rfl rfl hl.1 rfl (Nat.le_of_ble_eq_true rfl) ⟨Nat.zero_le _, Nat.zero_le _⟩ dX0_spanNumber_21 ?_
    refine lv_istore (lv' := [(4, .int (tat nh 6 G h 1)), (0, .ref ho), (1, .int h), (2, .int day), (3, .int k)]) hx hb dX0_spanNumber_24 hl (by decide) rfl (fun ls hl => ?_)
    refine lv_aload_n hx hb dX0_spanNumber_26 rfl (lv_at hl 1 rfl) ?_
    refine lv_iload_n hx hb dX0_spanNumber_27 rfl (lv_at hl 2 rfl) ?_
    refine rcV (As := [.int h]) (rest := []) (ci := 0) ⟨hx, hb, hml, hown, hts⟩ (kX0_isSpanned l D cI cZ ho hH aH nh G h (by first | assumption | omega)) (cwV 1 hts gX0_spanNumber_X0_isSpanned rfl rfl rfl (by decide +kernel) ⟨Nat.le_of_ble_eq_true rfl, Nat.le_of_ble_eq_true rfl⟩) hK hP [0, 1, 2] rfl rfl rfl rfl rfl hl.1 rfl (Nat.le_of_ble_eq_true rfl) ⟨Nat.zero_le _, Nat.zero_le _⟩ dX0_spanNumber_28 ?_
    refine lb_eq (tgt := 46) hx hb dX0_spanNumber_31 (by decide) (fun c_31 => ?_) (fun c_31 => ?_)
    · skip
      have c_31 := of_decide_eq_false c_31
      refine lv_iconst (v := 0) hx hb dX0_spanNumber_46 (by decide) ?_
      exact rd_iret hx hb hr hlocks dX0_spanNumber_47 (by simp [spN, c_10, c_31])
    · skip
      have c_31 := of_decide_eq_true c_31
      refine lv_iload hx hb dX0_spanNumber_34 (lv_at hl 0 rfl) ?_
      refine lv_if_le (tgt := 46) hx hb dX0_spanNumber_36 (by decide) (fun c_36 => ?_) (fun c_36 => ?_)
      · skip
        refine lv_iconst (v := 0) hx hb dX0_spanNumber_46 (by decide) ?_
        exact rd_iret hx hb hr hlocks dX0_spanNumber_47 (by simp [spN, c_10, c_31, c_36])
      · skip
        refine lv_iload_n hx hb dX0_spanNumber_39 rfl (lv_at hl 3 rfl) ?_
        refine lv_iload hx hb dX0_spanNumber_40 (lv_at hl 0 rfl) ?_
        refine lv_idiv hx hb dX0_spanNumber_42 (fun q => c_36 (by rw [q]; decide)) ?_
        refine lv_goto (tgt := 47) hx hb dX0_spanNumber_43 (by decide) ?_
        exact rd_iret hx hb hr hlocks dX0_spanNumber_47 (by simp [spN, c_10, c_31, c_36])
  · skip
    refine lv_iload_n hx hb dX0_spanNumber_13 rfl (lv_at hl 3 rfl) ?_
    exact rd_iret hx hb hr hlocks dX0_spanNumber_14 (by simp [spN, c_10])
set_option maxHeartbeats 4000000 in
set_option maxRecDepth 100000 in
theorem kX0_setLost (l : Launch) (D : va_G) (cI cZ : ClassId) (ho hH aH nh : Nat) (G : Nat → Nat → Int32) (h : Int32) (b : Int32) (hnh : nh ≤ 5) : Met l yX0_setLost wsX0_setLost ({ frames := 2, cells := 0, slots := 0, locals := 45 } : Room) (MuP D [(cI, .int), (cZ, .boolean)] [.ref ho, .int h, .int b] [(ho, .inr (0, [.ref hH])), (hH, .inr (3, [.int (nI 5), .int (nI 6), .ref aH, .int (nI nh)])), (aH, .inl (cI, 5 * 6, .inl (fl 6 G)))]) (QM D none [(ho, .inr (0, [.ref hH])), (hH, .inr (3, [.int (nI 5), .int (nI 6), .ref aH, .int (nI nh)])), (aH, .inl (cI, 5 * 6, .inl (fl 6 G)))] [(ho, .inr (0, [.ref hH])), (hH, .inr (3, [.int (nI 5), .int (nI 6), .ref aH, .int (nI nh)])), (aH, .inl (cI, 5 * 6, .inl (fl 6 (tput nh 6 G h 5 (if b = 0 then 0 else 1)))))]) 0 0 (adr [(ho, .inr (0, [.ref hH])), (hH, .inr (3, [.int (nI 5), .int (nI 6), .ref aH, .int (nI nh)])), (aH, .inl (cI, 5 * 6, .inl (fl 6 G)))]) := by
  refine mu_of (cc := cX0_setLost) (maxL := 3) (ret := none) (by decide) rfl (Nat.le_of_ble_eq_true rfl) ?_
  intro pp ee ss mm bw me cd ls hx hb hr hts hown hlocks hml hK hl H locs hP hD hS
  have hl : lv_has ls 3 [(0, .ref ho), (1, .int h), (2, .int b)] := hl
  have hf16 := hts (.fieldLink RX0 16 "OtherNames$Houses" "rows" "LOtherNames$Rows;") (by decide +kernel)
  have hin0 := (show ∀ w ∈ wsX00, w ∈ wsX0_setLost by decide +kernel)
  refine lv_aload_n hx hb dX0_setLost_0 rfl (lv_at hl 0 rfl) ?_
  refine va_get (D := D) (ci := 0) (v := .ref hH) (C := RX0) (T := TX0) (N := 1) hx hb hts hin0 hown hK hP 0 rfl rfl 0 (by decide) hf16 (fun _ h9 => h9) rfl dX0_setLost_1 ?_
  refine lv_iload_n hx hb dX0_setLost_4 rfl (lv_at hl 1 rfl) ?_
  refine lv_iconst (v := 5) hx hb dX0_setLost_5 (by decide) ?_
  refine lv_iload_n hx hb dX0_setLost_6 rfl (lv_at hl 2 rfl) ?_
  refine lv_if_eq (tgt := 14) hx hb dX0_setLost_7 (by decide) (fun c_7 => ?_) (fun c_7 => ?_)
  · skip
    refine lv_iconst (v := 0) hx hb dX0_setLost_14 (by decide) ?_
    refine mcV (As := [.int h, .int 5, .int 0]) (rest := []) (ci := 3) (wn := [(ho, .inr (0, [.ref hH])), (hH, .inr (3, [.int (nI 5), .int (nI 6), .ref aH, .int (nI nh)])), (aH, .inl (cI, 5 * 6, .inl (fl 6 (tput nh 6 G h 5 0))))]) ⟨hx, hb, hml, hown, hts⟩ (kX3_put l D cI cZ hH aH 5 6 nh G h 5 0 (by first | assumption | omega)) (cwV 3 hts gX0_setLost_X3_put rfl rfl rfl (by decide +kernel) ⟨Nat.le_of_ble_eq_true rfl, Nat.le_of_ble_eq_true rfl⟩) hK hP hD hS [1, 2] rfl rfl rfl rfl rfl rfl rfl rfl rfl hl.1 rfl (Nat.le_of_ble_eq_true rfl) ⟨Nat.zero_le _, Nat.zero_le _⟩ dX0_setLost_15 (fun H locs hP hD hS => ?_)
    refine W.eq (g2 := F0 mm 18 ls []) rfl ?_
    refine mu_vret hx hb hr hlocks hS dX0_setLost_18 ?_
    have q0 : (fl 6 (tput nh 6 G h 5 (if b = 0 then 0 else 1))) = (fl 6 (tput nh 6 G h 5 0)) := by simp [c_7]
    rw [q0]
    exact hP
  · skip
    refine lv_iconst (v := 1) hx hb dX0_setLost_10 (by decide) ?_
    refine lv_goto (tgt := 15) hx hb dX0_setLost_11 (by decide) ?_
    refine mcV (As := [.int h, .int 5, .int 1]) (rest := []) (ci := 3) (wn := [(ho, .inr (0, [.ref hH])), (hH, .inr (3, [.int (nI 5), .int (nI 6), .ref aH, .int (nI nh)])), (aH, .inl (cI, 5 * 6, .inl (fl 6 (tput nh 6 G h 5 1))))]) ⟨hx, hb, hml, hown, hts⟩ (kX3_put l D cI cZ hH aH 5 6 nh G h 5 1 (by first | assumption | omega)) (cwV 3 hts gX0_setLost_X3_put rfl rfl rfl (by decide +kernel) ⟨Nat.le_of_ble_eq_true rfl, Nat.le_of_ble_eq_true rfl⟩) hK hP hD hS [1, 2] rfl rfl rfl rfl rfl rfl rfl rfl rfl hl.1 rfl (Nat.le_of_ble_eq_true rfl) ⟨Nat.zero_le _, Nat.zero_le _⟩ dX0_setLost_15 (fun H locs hP hD hS => ?_)
    refine W.eq (g2 := F0 mm 18 ls []) rfl ?_
    refine mu_vret hx hb hr hlocks hS dX0_setLost_18 ?_
    have q0 : (fl 6 (tput nh 6 G h 5 (if b = 0 then 0 else 1))) = (fl 6 (tput nh 6 G h 5 1)) := by simp [c_7]
    rw [q0]
    exact hP
set_option maxHeartbeats 4000000 in
set_option maxRecDepth 100000 in
theorem kX0_add (l : Launch) (D : va_G) (cI cZ : ClassId) (ho hH aH nh : Nat) (G : Nat → Nat → Int32) (kd : Int32) (sn : Int32) (sd : Int32) (rs : Int32) (lt : Int32) (hnh : nh ≤ 5) : Met l yX0_add wsX0_add ({ frames := 2, cells := 0, slots := 0, locals := 45 } : Room) (MuP D [(cI, .int), (cZ, .boolean)] [.ref ho, .int kd, .int sn, .int sd, .int rs, .int lt] [(ho, .inr (0, [.ref hH])), (hH, .inr (3, [.int (nI 5), .int (nI 6), .ref aH, .int (nI nh)])), (aH, .inl (cI, 5 * 6, .inl (fl 6 G)))]) (QM D (some (.int (if okH kd sn sd rs lt = true then arow 5 nh else -1))) [(ho, .inr (0, [.ref hH])), (hH, .inr (3, [.int (nI 5), .int (nI 6), .ref aH, .int (nI nh)])), (aH, .inl (cI, 5 * 6, .inl (fl 6 G)))] [(ho, .inr (0, [.ref hH])), (hH, .inr (3, [.int (nI 5), .int (nI 6), .ref aH, .int (nI (if okH kd sn sd rs lt = true then adn 5 nh else nh))])), (aH, .inl (cI, 5 * 6, .inl (fl 6 (if okH kd sn sd rs lt = true then haddT nh G kd sn sd rs lt else G))))]) 0 0 (adr [(ho, .inr (0, [.ref hH])), (hH, .inr (3, [.int (nI 5), .int (nI 6), .ref aH, .int (nI nh)])), (aH, .inl (cI, 5 * 6, .inl (fl 6 G)))]) := by
  refine mu_of (cc := cX0_add) (maxL := 7) (ret := (some .int)) (by decide) rfl (Nat.le_of_ble_eq_true rfl) ?_
  intro pp ee ss mm bw me cd ls hx hb hr hts hown hlocks hml hK hl H locs hP hD hS
  have hl : lv_has ls 7 [(0, .ref ho), (1, .int kd), (2, .int sn), (3, .int sd), (4, .int rs), (5, .int lt)] := hl
  have hf16 := hts (.fieldLink RX0 16 "OtherNames$Houses" "rows" "LOtherNames$Rows;") (by decide +kernel)
  have hin0 := (show ∀ w ∈ wsX00, w ∈ wsX0_add by decide +kernel)
  refine lv_iload_n hx hb dX0_add_0 rfl (lv_at hl 1 rfl) ?_
  refine lv_if_lt (tgt := 33) hx hb dX0_add_1 (by decide) (fun c_1 => ?_) (fun c_1 => ?_)
  · skip
    refine lv_iconst (v := (-1)) hx hb dX0_add_33 (by decide) ?_
    refine mu_iret hx hb hr hlocks hS dX0_add_34 ?_ ?_
    · rw [if_neg (by simp [okH, inB, c_1])]
    have q0 : (nI (if okH kd sn sd rs lt = true then adn 5 nh else nh)) = (nI nh) := by rw [if_neg (by simp [okH, inB, c_1])]
    have q1 : (fl 6 (if okH kd sn sd rs lt = true then haddT nh G kd sn sd rs lt else G)) = (fl 6 G) := by rw [if_neg (by simp [okH, inB, c_1])]
    rw [q0, q1]
    exact hP
  · skip
    refine lv_iload_n hx hb dX0_add_4 rfl (lv_at hl 1 rfl) ?_
    refine lv_iconst (v := 2) hx hb dX0_add_5 (by decide) ?_
    refine lv_icmp_gt (tgt := 33) hx hb dX0_add_6 (by decide) (fun c_6 => ?_) (fun c_6 => ?_)
    · skip
      refine lv_iconst (v := (-1)) hx hb dX0_add_33 (by decide) ?_
      refine mu_iret hx hb hr hlocks hS dX0_add_34 ?_ ?_
      · rw [if_neg (by simp [okH, inB, c_1, c_6])]
      have q0 : (nI (if okH kd sn sd rs lt = true then adn 5 nh else nh)) = (nI nh) := by rw [if_neg (by simp [okH, inB, c_1, c_6])]
      have q1 : (fl 6 (if okH kd sn sd rs lt = true then haddT nh G kd sn sd rs lt else G)) = (fl 6 G) := by rw [if_neg (by simp [okH, inB, c_1, c_6])]
      rw [q0, q1]
      exact hP
    · skip
      refine lv_iload_n hx hb dX0_add_9 rfl (lv_at hl 2 rfl) ?_
      refine lv_iconst (v := 1) hx hb dX0_add_10 (by decide) ?_
      refine lv_icmp_lt (tgt := 33) hx hb dX0_add_11 (by decide) (fun c_11 => ?_) (fun c_11 => ?_)
      · skip
        refine lv_iconst (v := (-1)) hx hb dX0_add_33 (by decide) ?_
        refine mu_iret hx hb hr hlocks hS dX0_add_34 ?_ ?_
        · rw [if_neg (by simp [okH, inB, c_1, c_6, c_11])]
        have q0 : (nI (if okH kd sn sd rs lt = true then adn 5 nh else nh)) = (nI nh) := by rw [if_neg (by simp [okH, inB, c_1, c_6, c_11])]
        have q1 : (fl 6 (if okH kd sn sd rs lt = true then haddT nh G kd sn sd rs lt else G)) = (fl 6 G) := by rw [if_neg (by simp [okH, inB, c_1, c_6, c_11])]
        rw [q0, q1]
        exact hP
      · skip
        refine lv_iload_n hx hb dX0_add_14 rfl (lv_at hl 2 rfl) ?_
        refine lv_sipush (v := 365) hx hb dX0_add_15 (by decide) ?_
        refine lv_icmp_gt (tgt := 33) hx hb dX0_add_18 (by decide) (fun c_18 => ?_) (fun c_18 => ?_)
        · skip
          refine lv_iconst (v := (-1)) hx hb dX0_add_33 (by decide) ?_
          refine mu_iret hx hb hr hlocks hS dX0_add_34 ?_ ?_
          · rw [if_neg (by simp [okH, inB, c_1, c_6, c_11, c_18])]
          have q0 : (nI (if okH kd sn sd rs lt = true then adn 5 nh else nh)) = (nI nh) := by rw [if_neg (by simp [okH, inB, c_1, c_6, c_11, c_18])]
          have q1 : (fl 6 (if okH kd sn sd rs lt = true then haddT nh G kd sn sd rs lt else G)) = (fl 6 G) := by rw [if_neg (by simp [okH, inB, c_1, c_6, c_11, c_18])]
          rw [q0, q1]
          exact hP
        · skip
          refine lv_iload_n hx hb dX0_add_21 rfl (lv_at hl 3 rfl) ?_
          refine lv_iconst (v := 1) hx hb dX0_add_22 (by decide) ?_
          refine lv_icmp_lt (tgt := 33) hx hb dX0_add_23 (by decide) (fun c_23 => ?_) (fun c_23 => ?_)
          · skip
            refine lv_iconst (v := (-1)) hx hb dX0_add_33 (by decide) ?_
            refine mu_iret hx hb hr hlocks hS dX0_add_34 ?_ ?_
            · rw [if_neg (by simp [okH, inB, c_1, c_6, c_11, c_18, c_23])]
            have q0 : (nI (if okH kd sn sd rs lt = true then adn 5 nh else nh)) = (nI nh) := by rw [if_neg (by simp [okH, inB, c_1, c_6, c_11, c_18, c_23])]
            have q1 : (fl 6 (if okH kd sn sd rs lt = true then haddT nh G kd sn sd rs lt else G)) = (fl 6 G) := by rw [if_neg (by simp [okH, inB, c_1, c_6, c_11, c_18, c_23])]
            rw [q0, q1]
            exact hP
          · skip
            refine lv_iload_n hx hb dX0_add_26 rfl (lv_at hl 3 rfl) ?_
            refine lv_sipush (v := 9973) hx hb dX0_add_27 (by decide) ?_
            refine lv_icmp_lt (tgt := 35) hx hb dX0_add_30 (by decide) (fun c_30 => ?_) (fun c_30 => ?_)
            · skip
              have c_30 : ¬ 9972 < sd := by rw [lt9973] at c_30; exact c_30
              refine lv_iload hx hb dX0_add_35 (lv_at hl 4 rfl) ?_
              refine lv_if_lt (tgt := 60) hx hb dX0_add_37 (by decide) (fun c_37 => ?_) (fun c_37 => ?_)
              · skip
                refine lv_iconst (v := (-1)) hx hb dX0_add_60 (by decide) ?_
                refine mu_iret hx hb hr hlocks hS dX0_add_61 ?_ ?_
                · rw [if_neg (by simp [okH, inB, c_1, c_6, c_11, c_18, c_23, c_30, c_37])]
                have q0 : (nI (if okH kd sn sd rs lt = true then adn 5 nh else nh)) = (nI nh) := by rw [if_neg (by simp [okH, inB, c_1, c_6, c_11, c_18, c_23, c_30, c_37])]
                have q1 : (fl 6 (if okH kd sn sd rs lt = true then haddT nh G kd sn sd rs lt else G)) = (fl 6 G) := by rw [if_neg (by simp [okH, inB, c_1, c_6, c_11, c_18, c_23, c_30, c_37])]
                rw [q0, q1]
                exact hP
              · skip
                refine lv_iload hx hb dX0_add_40 (lv_at hl 4 rfl) ?_
                refine lv_sipush (v := 255) hx hb dX0_add_42 (by decide) ?_
                refine lv_icmp_gt (tgt := 60) hx hb dX0_add_45 (by decide) (fun c_45 => ?_) (fun c_45 => ?_)
                · skip
                  refine lv_iconst (v := (-1)) hx hb dX0_add_60 (by decide) ?_
                  refine mu_iret hx hb hr hlocks hS dX0_add_61 ?_ ?_
                  · rw [if_neg (by simp [okH, inB, c_1, c_6, c_11, c_18, c_23, c_30, c_37, c_45])]
                  have q0 : (nI (if okH kd sn sd rs lt = true then adn 5 nh else nh)) = (nI nh) := by rw [if_neg (by simp [okH, inB, c_1, c_6, c_11, c_18, c_23, c_30, c_37, c_45])]
                  have q1 : (fl 6 (if okH kd sn sd rs lt = true then haddT nh G kd sn sd rs lt else G)) = (fl 6 G) := by rw [if_neg (by simp [okH, inB, c_1, c_6, c_11, c_18, c_23, c_30, c_37, c_45])]
                  rw [q0, q1]
                  exact hP
                · skip
                  refine lv_iload hx hb dX0_add_48 (lv_at hl 5 rfl) ?_
                  refine lv_if_lt (tgt := 60) hx hb dX0_add_50 (by decide) (fun c_50 => ?_) (fun c_50 => ?_)
                  · skip
                    refine lv_iconst (v := (-1)) hx hb dX0_add_60 (by decide) ?_
                    refine mu_iret hx hb hr hlocks hS dX0_add_61 ?_ ?_
                    · rw [if_neg (by simp [okH, inB, c_1, c_6, c_11, c_18, c_23, c_30, c_37, c_45, c_50])]
                    have q0 : (nI (if okH kd sn sd rs lt = true then adn 5 nh else nh)) = (nI nh) := by rw [if_neg (by simp [okH, inB, c_1, c_6, c_11, c_18, c_23, c_30, c_37, c_45, c_50])]
                    have q1 : (fl 6 (if okH kd sn sd rs lt = true then haddT nh G kd sn sd rs lt else G)) = (fl 6 G) := by rw [if_neg (by simp [okH, inB, c_1, c_6, c_11, c_18, c_23, c_30, c_37, c_45, c_50])]
                    rw [q0, q1]
                    exact hP
                  · skip
                    refine lv_iload hx hb dX0_add_53 (lv_at hl 5 rfl) ?_
                    refine lv_bipush (v := 24) hx hb dX0_add_55 (by decide) ?_
                    refine lv_icmp_le (tgt := 62) hx hb dX0_add_57 (by decide) (fun c_57 => ?_) (fun c_57 => ?_)
                    · skip
                      have c_57 : ¬ 24 < lt := by rw [le24] at c_57; exact c_57
                      refine lv_aload_n hx hb dX0_add_62 rfl (lv_at hl 0 rfl) ?_
                      refine va_get (D := D) (ci := 0) (v := .ref hH) (C := RX0) (T := TX0) (N := 1) hx hb hts hin0 hown hK hP 0 rfl rfl 0 (by decide) hf16 (fun _ h9 => h9) rfl dX0_add_63 ?_
                      refine mcV (As := []) (rest := []) (ci := 3) (wn := [(ho, .inr (0, [.ref hH])), (hH, .inr (3, [.int (nI 5), .int (nI 6), .ref aH, .int (nI (adn 5 nh))])), (aH, .inl (cI, 5 * 6, .inl (fl 6 G)))]) ⟨hx, hb, hml, hown, hts⟩ (kX3_addRow l D cI cZ hH aH 5 6 nh G (by first | assumption | omega)) (cwV 0 hts gX0_add_X3_addRow rfl rfl rfl (by decide +kernel) ⟨Nat.le_of_ble_eq_true rfl, Nat.le_of_ble_eq_true rfl⟩) hK hP hD hS [1, 2] rfl rfl rfl rfl rfl rfl rfl rfl rfl hl.1 rfl (Nat.le_of_ble_eq_true rfl) ⟨Nat.zero_le _, Nat.zero_le _⟩ dX0_add_66 (fun H locs hP hD hS => ?_)
                      refine W.eq (g2 := F0 mm 69 ls (.int (arow 5 nh) :: [])) rfl ?_
                      refine lv_istore (lv' := [(6, .int (arow 5 nh)), (0, .ref ho), (1, .int kd), (2, .int sn), (3, .int sd), (4, .int rs), (5, .int lt)]) hx hb dX0_add_69 hl (by decide) rfl (fun ls hl => ?_)
                      refine lv_aload_n hx hb dX0_add_71 rfl (lv_at hl 1 rfl) ?_
                      refine va_get (D := D) (ci := 0) (v := .ref hH) (C := RX0) (T := TX0) (N := 1) hx hb hts hin0 hown hK hP 0 rfl rfl 0 (by decide) hf16 (fun _ h9 => h9) rfl dX0_add_72 ?_
                      refine lv_iload hx hb dX0_add_75 (lv_at hl 0 rfl) ?_
                      refine lv_iconst (v := 0) hx hb dX0_add_77 (by decide) ?_
                      refine lv_iload_n hx hb dX0_add_78 rfl (lv_at hl 2 rfl) ?_
                      refine mcV (As := [.int (arow 5 nh), .int 0, .int kd]) (rest := []) (ci := 3) (wn := [(ho, .inr (0, [.ref hH])), (hH, .inr (3, [.int (nI 5), .int (nI 6), .ref aH, .int (nI (adn 5 nh))])), (aH, .inl (cI, 5 * 6, .inl (fl 6 (tput (adn 5 nh) 6 G (arow 5 nh) 0 kd))))]) ⟨hx, hb, hml, hown, hts⟩ (kX3_put l D cI cZ hH aH 5 6 (adn 5 nh) G (arow 5 nh) 0 kd (by have := adn_le hnh; omega)) (cwV 3 hts gX0_add_X3_put rfl rfl rfl (by decide +kernel) ⟨Nat.le_of_ble_eq_true rfl, Nat.le_of_ble_eq_true rfl⟩) hK hP hD hS [1, 2] rfl rfl rfl rfl rfl rfl rfl rfl rfl hl.1 rfl (Nat.le_of_ble_eq_true rfl) ⟨Nat.zero_le _, Nat.zero_le _⟩ dX0_add_79 (fun H locs hP hD hS => ?_)
                      refine W.eq (g2 := F0 mm 82 ls []) rfl ?_
                      refine lv_aload_n hx hb dX0_add_82 rfl (lv_at hl 1 rfl) ?_
                      refine va_get (D := D) (ci := 0) (v := .ref hH) (C := RX0) (T := TX0) (N := 1) hx hb hts hin0 hown hK hP 0 rfl rfl 0 (by decide) hf16 (fun _ h9 => h9) rfl dX0_add_83 ?_
                      refine lv_iload hx hb dX0_add_86 (lv_at hl 0 rfl) ?_
                      refine lv_iconst (v := 1) hx hb dX0_add_88 (by decide) ?_
                      refine lv_iload_n hx hb dX0_add_89 rfl (lv_at hl 3 rfl) ?_
                      refine mcV (As := [.int (arow 5 nh), .int 1, .int sn]) (rest := []) (ci := 3) (wn := [(ho, .inr (0, [.ref hH])), (hH, .inr (3, [.int (nI 5), .int (nI 6), .ref aH, .int (nI (adn 5 nh))])), (aH, .inl (cI, 5 * 6, .inl (fl 6 (tput (adn 5 nh) 6 (tput (adn 5 nh) 6 G (arow 5 nh) 0 kd) (arow 5 nh) 1 sn))))]) ⟨hx, hb, hml, hown, hts⟩ (kX3_put l D cI cZ hH aH 5 6 (adn 5 nh) (tput (adn 5 nh) 6 G (arow 5 nh) 0 kd) (arow 5 nh) 1 sn (by have := adn_le hnh; omega)) (cwV 3 hts gX0_add_X3_put rfl rfl rfl (by decide +kernel) ⟨Nat.le_of_ble_eq_true rfl, Nat.le_of_ble_eq_true rfl⟩) hK hP hD hS [1, 2] rfl rfl rfl rfl rfl rfl rfl rfl rfl hl.1 rfl (Nat.le_of_ble_eq_true rfl) ⟨Nat.zero_le _, Nat.zero_le _⟩ dX0_add_90 (fun H locs hP hD hS => ?_)
                      refine W.eq (g2 := F0 mm 93 ls []) rfl ?_
                      refine lv_aload_n hx hb dX0_add_93 rfl (lv_at hl 1 rfl) ?_
                      refine va_get (D := D) (ci := 0) (v := .ref hH) (C := RX0) (T := TX0) (N := 1) hx hb hts hin0 hown hK hP 0 rfl rfl 0 (by decide) hf16 (fun _ h9 => h9) rfl dX0_add_94 ?_
                      refine lv_iload hx hb dX0_add_97 (lv_at hl 0 rfl) ?_
                      refine lv_iconst (v := 2) hx hb dX0_add_99 (by decide) ?_
                      refine lv_iload_n hx hb dX0_add_100 rfl (lv_at hl 4 rfl) ?_
                      refine mcV (As := [.int (arow 5 nh), .int 2, .int sd]) (rest := []) (ci := 3) (wn := [(ho, .inr (0, [.ref hH])), (hH, .inr (3, [.int (nI 5), .int (nI 6), .ref aH, .int (nI (adn 5 nh))])), (aH, .inl (cI, 5 * 6, .inl (fl 6 (tput (adn 5 nh) 6 (tput (adn 5 nh) 6 (tput (adn 5 nh) 6 G (arow 5 nh) 0 kd) (arow 5 nh) 1 sn) (arow 5 nh) 2 sd))))]) ⟨hx, hb, hml, hown, hts⟩ (kX3_put l D cI cZ hH aH 5 6 (adn 5 nh) (tput (adn 5 nh) 6 (tput (adn 5 nh) 6 G (arow 5 nh) 0 kd) (arow 5 nh) 1 sn) (arow 5 nh) 2 sd (by have := adn_le hnh; omega)) (cwV 3 hts gX0_add_X3_put rfl rfl rfl (by decide +kernel) ⟨Nat.le_of_ble_eq_true rfl, Nat.le_of_ble_eq_true rfl⟩) hK hP hD hS [1, 2] rfl rfl rfl rfl rfl rfl rfl rfl rfl hl.1 rfl (Nat.le_of_ble_eq_true rfl) ⟨Nat.zero_le _, Nat.zero_le _⟩ dX0_add_101 (fun H locs hP hD hS => ?_)
                      refine W.eq (g2 := F0 mm 104 ls []) rfl ?_
                      refine lv_aload_n hx hb dX0_add_104 rfl (lv_at hl 1 rfl) ?_
                      refine va_get (D := D) (ci := 0) (v := .ref hH) (C := RX0) (T := TX0) (N := 1) hx hb hts hin0 hown hK hP 0 rfl rfl 0 (by decide) hf16 (fun _ h9 => h9) rfl dX0_add_105 ?_
                      refine lv_iload hx hb dX0_add_108 (lv_at hl 0 rfl) ?_
                      refine lv_iconst (v := 3) hx hb dX0_add_110 (by decide) ?_
                      refine lv_iload hx hb dX0_add_111 (lv_at hl 5 rfl) ?_
                      refine mcV (As := [.int (arow 5 nh), .int 3, .int rs]) (rest := []) (ci := 3) (wn := [(ho, .inr (0, [.ref hH])), (hH, .inr (3, [.int (nI 5), .int (nI 6), .ref aH, .int (nI (adn 5 nh))])), (aH, .inl (cI, 5 * 6, .inl (fl 6 (tput (adn 5 nh) 6 (tput (adn 5 nh) 6 (tput (adn 5 nh) 6 (tput (adn 5 nh) 6 G (arow 5 nh) 0 kd) (arow 5 nh) 1 sn) (arow 5 nh) 2 sd) (arow 5 nh) 3 rs))))]) ⟨hx, hb, hml, hown, hts⟩ (kX3_put l D cI cZ hH aH 5 6 (adn 5 nh) (tput (adn 5 nh) 6 (tput (adn 5 nh) 6 (tput (adn 5 nh) 6 G (arow 5 nh) 0 kd) (arow 5 nh) 1 sn) (arow 5 nh) 2 sd) (arow 5 nh) 3 rs (by have := adn_le hnh; omega)) (cwV 3 hts gX0_add_X3_put rfl rfl rfl (by decide +kernel) ⟨Nat.le_of_ble_eq_true rfl, Nat.le_of_ble_eq_true rfl⟩) hK hP hD hS [1, 2] rfl rfl rfl rfl rfl rfl rfl rfl rfl hl.1 rfl (Nat.le_of_ble_eq_true rfl) ⟨Nat.zero_le _, Nat.zero_le _⟩ dX0_add_113 (fun H locs hP hD hS => ?_)
                      refine W.eq (g2 := F0 mm 116 ls []) rfl ?_
                      refine lv_aload_n hx hb dX0_add_116 rfl (lv_at hl 1 rfl) ?_
                      refine va_get (D := D) (ci := 0) (v := .ref hH) (C := RX0) (T := TX0) (N := 1) hx hb hts hin0 hown hK hP 0 rfl rfl 0 (by decide) hf16 (fun _ h9 => h9) rfl dX0_add_117 ?_
                      refine lv_iload hx hb dX0_add_120 (lv_at hl 0 rfl) ?_
                      refine lv_iconst (v := 4) hx hb dX0_add_122 (by decide) ?_
                      refine lv_iload hx hb dX0_add_123 (lv_at hl 6 rfl) ?_
                      refine mcV (As := [.int (arow 5 nh), .int 4, .int lt]) (rest := []) (ci := 3) (wn := [(ho, .inr (0, [.ref hH])), (hH, .inr (3, [.int (nI 5), .int (nI 6), .ref aH, .int (nI (adn 5 nh))])), (aH, .inl (cI, 5 * 6, .inl (fl 6 (tput (adn 5 nh) 6 (tput (adn 5 nh) 6 (tput (adn 5 nh) 6 (tput (adn 5 nh) 6 (tput (adn 5 nh) 6 G (arow 5 nh) 0 kd) (arow 5 nh) 1 sn) (arow 5 nh) 2 sd) (arow 5 nh) 3 rs) (arow 5 nh) 4 lt))))]) ⟨hx, hb, hml, hown, hts⟩ (kX3_put l D cI cZ hH aH 5 6 (adn 5 nh) (tput (adn 5 nh) 6 (tput (adn 5 nh) 6 (tput (adn 5 nh) 6 (tput (adn 5 nh) 6 G (arow 5 nh) 0 kd) (arow 5 nh) 1 sn) (arow 5 nh) 2 sd) (arow 5 nh) 3 rs) (arow 5 nh) 4 lt (by have := adn_le hnh; omega)) (cwV 3 hts gX0_add_X3_put rfl rfl rfl (by decide +kernel) ⟨Nat.le_of_ble_eq_true rfl, Nat.le_of_ble_eq_true rfl⟩) hK hP hD hS [1, 2] rfl rfl rfl rfl rfl rfl rfl rfl rfl hl.1 rfl (Nat.le_of_ble_eq_true rfl) ⟨Nat.zero_le _, Nat.zero_le _⟩ dX0_add_125 (fun H locs hP hD hS => ?_)
                      refine W.eq (g2 := F0 mm 128 ls []) rfl ?_
                      refine lv_aload_n hx hb dX0_add_128 rfl (lv_at hl 1 rfl) ?_
                      refine va_get (D := D) (ci := 0) (v := .ref hH) (C := RX0) (T := TX0) (N := 1) hx hb hts hin0 hown hK hP 0 rfl rfl 0 (by decide) hf16 (fun _ h9 => h9) rfl dX0_add_129 ?_
                      refine lv_iload hx hb dX0_add_132 (lv_at hl 0 rfl) ?_
                      refine lv_iconst (v := 5) hx hb dX0_add_134 (by decide) ?_
                      refine lv_iconst (v := 0) hx hb dX0_add_135 (by decide) ?_
                      refine mcV (As := [.int (arow 5 nh), .int 5, .int 0]) (rest := []) (ci := 3) (wn := [(ho, .inr (0, [.ref hH])), (hH, .inr (3, [.int (nI 5), .int (nI 6), .ref aH, .int (nI (adn 5 nh))])), (aH, .inl (cI, 5 * 6, .inl (fl 6 (tput (adn 5 nh) 6 (tput (adn 5 nh) 6 (tput (adn 5 nh) 6 (tput (adn 5 nh) 6 (tput (adn 5 nh) 6 (tput (adn 5 nh) 6 G (arow 5 nh) 0 kd) (arow 5 nh) 1 sn) (arow 5 nh) 2 sd) (arow 5 nh) 3 rs) (arow 5 nh) 4 lt) (arow 5 nh) 5 0))))]) ⟨hx, hb, hml, hown, hts⟩ (kX3_put l D cI cZ hH aH 5 6 (adn 5 nh) (tput (adn 5 nh) 6 (tput (adn 5 nh) 6 (tput (adn 5 nh) 6 (tput (adn 5 nh) 6 (tput (adn 5 nh) 6 G (arow 5 nh) 0 kd) (arow 5 nh) 1 sn) (arow 5 nh) 2 sd) (arow 5 nh) 3 rs) (arow 5 nh) 4 lt) (arow 5 nh) 5 0 (by have := adn_le hnh; omega)) (cwV 3 hts gX0_add_X3_put rfl rfl rfl (by decide +kernel) ⟨Nat.le_of_ble_eq_true rfl, Nat.le_of_ble_eq_true rfl⟩) hK hP hD hS [1, 2] rfl rfl rfl rfl rfl rfl rfl rfl rfl hl.1 rfl (Nat.le_of_ble_eq_true rfl) ⟨Nat.zero_le _, Nat.zero_le _⟩ dX0_add_136 (fun H locs hP hD hS => ?_)
                      refine W.eq (g2 := F0 mm 139 ls []) rfl ?_
                      refine lv_iload hx hb dX0_add_139 (lv_at hl 0 rfl) ?_
                      refine mu_iret hx hb hr hlocks hS dX0_add_141 ?_ ?_
                      · rw [if_pos (by simp [okH, inB, c_1, c_6, c_11, c_18, c_23, c_30, c_37, c_45, c_50, c_57])] <;> rfl
                      have q0 : (nI (if okH kd sn sd rs lt = true then adn 5 nh else nh)) = (nI (adn 5 nh)) := by rw [if_pos (by simp [okH, inB, c_1, c_6, c_11, c_18, c_23, c_30, c_37, c_45, c_50, c_57])] <;> rfl
                      have q1 : (fl 6 (if okH kd sn sd rs lt = true then haddT nh G kd sn sd rs lt else G)) = (fl 6 (tput (adn 5 nh) 6 (tput (adn 5 nh) 6 (tput (adn 5 nh) 6 (tput (adn 5 nh) 6 (tput (adn 5 nh) 6 (tput (adn 5 nh) 6 G (arow 5 nh) 0 kd) (arow 5 nh) 1 sn) (arow 5 nh) 2 sd) (arow 5 nh) 3 rs) (arow 5 nh) 4 lt) (arow 5 nh) 5 0)) := by rw [if_pos (by simp [okH, inB, c_1, c_6, c_11, c_18, c_23, c_30, c_37, c_45, c_50, c_57])] <;> rfl
                      rw [q0, q1]
                      exact hP
                    · skip
                      have c_57 : 24 < lt := by rw [le24] at c_57; exact Classical.not_not.mp c_57
                      refine lv_iconst (v := (-1)) hx hb dX0_add_60 (by decide) ?_
                      refine mu_iret hx hb hr hlocks hS dX0_add_61 ?_ ?_
                      · rw [if_neg (by simp [okH, inB, c_1, c_6, c_11, c_18, c_23, c_30, c_37, c_45, c_50, c_57])]
                      have q0 : (nI (if okH kd sn sd rs lt = true then adn 5 nh else nh)) = (nI nh) := by rw [if_neg (by simp [okH, inB, c_1, c_6, c_11, c_18, c_23, c_30, c_37, c_45, c_50, c_57])]
                      have q1 : (fl 6 (if okH kd sn sd rs lt = true then haddT nh G kd sn sd rs lt else G)) = (fl 6 G) := by rw [if_neg (by simp [okH, inB, c_1, c_6, c_11, c_18, c_23, c_30, c_37, c_45, c_50, c_57])]
                      rw [q0, q1]
                      exact hP
            · skip
              have c_30 : 9972 < sd := by rw [lt9973] at c_30; exact Classical.not_not.mp c_30
              refine lv_iconst (v := (-1)) hx hb dX0_add_33 (by decide) ?_
              refine mu_iret hx hb hr hlocks hS dX0_add_34 ?_ ?_
              · rw [if_neg (by simp [okH, inB, c_1, c_6, c_11, c_18, c_23, c_30])]
              have q0 : (nI (if okH kd sn sd rs lt = true then adn 5 nh else nh)) = (nI nh) := by rw [if_neg (by simp [okH, inB, c_1, c_6, c_11, c_18, c_23, c_30])]
              have q1 : (fl 6 (if okH kd sn sd rs lt = true then haddT nh G kd sn sd rs lt else G)) = (fl 6 G) := by rw [if_neg (by simp [okH, inB, c_1, c_6, c_11, c_18, c_23, c_30])]
              rw [q0, q1]
              exact hP
end
section
set_option maxHeartbeats 4000000 in
set_option maxRecDepth 100000 in
theorem kX1_size (l : Launch) (D : va_G) (cI cZ : ClassId) (na hN aN nn : Nat) (N : Nat → Nat → Int32) (pe hP_ aP np : Nat) (P : Nat → Nat → Int32) (hnn : nn ≤ 200) (hnp : np ≤ 24) : Met l yX1_size wsX1_size ({ frames := 1, cells := 0, slots := 0, locals := 20 } : Room) (RdP D [(cI, .int), (cZ, .boolean)] [.ref na] [(na, .inr (1, [.ref hN, .ref pe])), (hN, .inr (3, [.int (nI 200), .int (nI 5), .ref aN, .int (nI nn)])), (aN, .inl (cI, 200 * 5, .inl (fl 5 N))), (pe, .inr (2, [.ref hP_])), (hP_, .inr (3, [.int (nI 24), .int (nI 6), .ref aP, .int (nI np)])), (aP, .inl (cI, 24 * 6, .inl (fl 6 P)))]) (QcRead (nI nn)) 0 0 (fun _ => False) := by
  refine rd_of (cc := cX1_size) (maxL := 1) (ret := (some .int)) (by decide) rfl (Nat.le_of_ble_eq_true rfl) ?_
  intro pp ee ss mm bw me cd ls hx hb hr hts hown hlocks hml hP hK hl
  have hl : lv_has ls 1 [(0, .ref na)] := hl
  have hf16 := hts (.fieldLink RX1 16 "OtherNames$Names" "rows" "LOtherNames$Rows;") (by decide +kernel)
  have hin1 := (show ∀ w ∈ wsX10, w ∈ wsX1_size by decide +kernel)
  refine lv_aload_n hx hb dX1_size_0 rfl (lv_at hl 0 rfl) ?_
  refine va_get (D := D) (ci := 1) (v := .ref hN) (C := RX1) (T := TX1) (N := 2) hx hb hts hin1 hown hK hP 0 rfl rfl 0 (by decide) hf16 (fun _ h9 => h9) rfl dX1_size_1 ?_
  refine rcV (As := []) (rest := []) (ci := 3) ⟨hx, hb, hml, hown, hts⟩ (kX3_size l D cI cZ hN aN 200 5 nn N (by first | assumption | omega)) (cwV 0 hts gX1_size_X3_size rfl rfl rfl (by decide +kernel) ⟨Nat.le_of_ble_eq_true rfl, Nat.le_of_ble_eq_true rfl⟩) hK hP [1, 2] rfl rfl rfl rfl rfl hl.1 rfl (Nat.le_of_ble_eq_true rfl) ⟨Nat.zero_le _, Nat.zero_le _⟩ dX1_size_4 ?_
  exact rd_iret hx hb hr hlocks dX1_size_7 (by rfl)
set_option maxHeartbeats 4000000 in
set_option maxRecDepth 100000 in
theorem kX1_cell (l : Launch) (D : va_G) (cI cZ : ClassId) (na hN aN nn : Nat) (N : Nat → Nat → Int32) (pe hP_ aP np : Nat) (P : Nat → Nat → Int32) (r : Int32) (cx : Int32) (hnn : nn ≤ 200) (hnp : np ≤ 24) : Met l yX1_cell wsX1_cell ({ frames := 2, cells := 0, slots := 0, locals := 44 } : Room) (RdP D [(cI, .int), (cZ, .boolean)] [.ref na, .int r, .int cx] [(na, .inr (1, [.ref hN, .ref pe])), (hN, .inr (3, [.int (nI 200), .int (nI 5), .ref aN, .int (nI nn)])), (aN, .inl (cI, 200 * 5, .inl (fl 5 N))), (pe, .inr (2, [.ref hP_])), (hP_, .inr (3, [.int (nI 24), .int (nI 6), .ref aP, .int (nI np)])), (aP, .inl (cI, 24 * 6, .inl (fl 6 P)))]) (QcRead (tat nn 5 N r cx)) 0 0 (fun _ => False) := by
  refine rd_of (cc := cX1_cell) (maxL := 3) (ret := (some .int)) (by decide) rfl (Nat.le_of_ble_eq_true rfl) ?_
  intro pp ee ss mm bw me cd ls hx hb hr hts hown hlocks hml hP hK hl
  have hl : lv_has ls 3 [(0, .ref na), (1, .int r), (2, .int cx)] := hl
  have hf16 := hts (.fieldLink RX1 16 "OtherNames$Names" "rows" "LOtherNames$Rows;") (by decide +kernel)
  have hin1 := (show ∀ w ∈ wsX10, w ∈ wsX1_cell by decide +kernel)
  refine lv_aload_n hx hb dX1_cell_0 rfl (lv_at hl 0 rfl) ?_
  refine va_get (D := D) (ci := 1) (v := .ref hN) (C := RX1) (T := TX1) (N := 2) hx hb hts hin1 hown hK hP 0 rfl rfl 0 (by decide) hf16 (fun _ h9 => h9) rfl dX1_cell_1 ?_
  refine lv_iload_n hx hb dX1_cell_4 rfl (lv_at hl 1 rfl) ?_
  refine lv_iload_n hx hb dX1_cell_5 rfl (lv_at hl 2 rfl) ?_
  refine rcV (As := [.int r, .int cx]) (rest := []) (ci := 3) ⟨hx, hb, hml, hown, hts⟩ (kX3_at l D cI cZ hN aN 200 5 nn N r cx (by first | assumption | omega)) (cwV 2 hts gX1_cell_X3_at rfl rfl rfl (by decide +kernel) ⟨Nat.le_of_ble_eq_true rfl, Nat.le_of_ble_eq_true rfl⟩) hK hP [1, 2] rfl rfl rfl rfl rfl hl.1 rfl (Nat.le_of_ble_eq_true rfl) ⟨Nat.zero_le _, Nat.zero_le _⟩ dX1_cell_6 ?_
  exact rd_iret hx hb hr hlocks dX1_cell_9 (by rfl)
set_option maxHeartbeats 4000000 in
set_option maxRecDepth 100000 in
theorem kX1_nameAt (l : Launch) (D : va_G) (cI cZ : ClassId) (na hN aN nn : Nat) (N : Nat → Nat → Int32) (pe hP_ aP np : Nat) (P : Nat → Nat → Int32) (r : Int32) (hnn : nn ≤ 200) (hnp : np ≤ 24) : Met l yX1_nameAt wsX1_nameAt ({ frames := 2, cells := 0, slots := 0, locals := 44 } : Room) (RdP D [(cI, .int), (cZ, .boolean)] [.ref na, .int r] [(na, .inr (1, [.ref hN, .ref pe])), (hN, .inr (3, [.int (nI 200), .int (nI 5), .ref aN, .int (nI nn)])), (aN, .inl (cI, 200 * 5, .inl (fl 5 N))), (pe, .inr (2, [.ref hP_])), (hP_, .inr (3, [.int (nI 24), .int (nI 6), .ref aP, .int (nI np)])), (aP, .inl (cI, 24 * 6, .inl (fl 6 P)))]) (QcRead (tat nn 5 N r 1)) 0 0 (fun _ => False) := by
  refine rd_of (cc := cX1_nameAt) (maxL := 2) (ret := (some .int)) (by decide) rfl (Nat.le_of_ble_eq_true rfl) ?_
  intro pp ee ss mm bw me cd ls hx hb hr hts hown hlocks hml hP hK hl
  have hl : lv_has ls 2 [(0, .ref na), (1, .int r)] := hl
  have hf16 := hts (.fieldLink RX1 16 "OtherNames$Names" "rows" "LOtherNames$Rows;") (by decide +kernel)
  have hin1 := (show ∀ w ∈ wsX10, w ∈ wsX1_nameAt by decide +kernel)
  refine lv_aload_n hx hb dX1_nameAt_0 rfl (lv_at hl 0 rfl) ?_
  refine va_get (D := D) (ci := 1) (v := .ref hN) (C := RX1) (T := TX1) (N := 2) hx hb hts hin1 hown hK hP 0 rfl rfl 0 (by decide) hf16 (fun _ h9 => h9) rfl dX1_nameAt_1 ?_
  refine lv_iload_n hx hb dX1_nameAt_4 rfl (lv_at hl 1 rfl) ?_
  refine lv_iconst (v := 1) hx hb dX1_nameAt_5 (by decide) ?_
  refine rcV (As := [.int r, .int 1]) (rest := []) (ci := 3) ⟨hx, hb, hml, hown, hts⟩ (kX3_at l D cI cZ hN aN 200 5 nn N r 1 (by first | assumption | omega)) (cwV 2 hts gX1_nameAt_X3_at rfl rfl rfl (by decide +kernel) ⟨Nat.le_of_ble_eq_true rfl, Nat.le_of_ble_eq_true rfl⟩) hK hP [1, 2] rfl rfl rfl rfl rfl hl.1 rfl (Nat.le_of_ble_eq_true rfl) ⟨Nat.zero_le _, Nat.zero_le _⟩ dX1_nameAt_6 ?_
  exact rd_iret hx hb hr hlocks dX1_nameAt_9 (by rfl)
set_option maxHeartbeats 4000000 in
set_option maxRecDepth 100000 in
theorem kX1_ownerAt (l : Launch) (D : va_G) (cI cZ : ClassId) (na hN aN nn : Nat) (N : Nat → Nat → Int32) (pe hP_ aP np : Nat) (P : Nat → Nat → Int32) (r : Int32) (hnn : nn ≤ 200) (hnp : np ≤ 24) : Met l yX1_ownerAt wsX1_ownerAt ({ frames := 2, cells := 0, slots := 0, locals := 44 } : Room) (RdP D [(cI, .int), (cZ, .boolean)] [.ref na, .int r] [(na, .inr (1, [.ref hN, .ref pe])), (hN, .inr (3, [.int (nI 200), .int (nI 5), .ref aN, .int (nI nn)])), (aN, .inl (cI, 200 * 5, .inl (fl 5 N))), (pe, .inr (2, [.ref hP_])), (hP_, .inr (3, [.int (nI 24), .int (nI 6), .ref aP, .int (nI np)])), (aP, .inl (cI, 24 * 6, .inl (fl 6 P)))]) (QcRead (tat nn 5 N r 2)) 0 0 (fun _ => False) := by
  refine rd_of (cc := cX1_ownerAt) (maxL := 2) (ret := (some .int)) (by decide) rfl (Nat.le_of_ble_eq_true rfl) ?_
  intro pp ee ss mm bw me cd ls hx hb hr hts hown hlocks hml hP hK hl
  have hl : lv_has ls 2 [(0, .ref na), (1, .int r)] := hl
  have hf16 := hts (.fieldLink RX1 16 "OtherNames$Names" "rows" "LOtherNames$Rows;") (by decide +kernel)
  have hin1 := (show ∀ w ∈ wsX10, w ∈ wsX1_ownerAt by decide +kernel)
  refine lv_aload_n hx hb dX1_ownerAt_0 rfl (lv_at hl 0 rfl) ?_
  refine va_get (D := D) (ci := 1) (v := .ref hN) (C := RX1) (T := TX1) (N := 2) hx hb hts hin1 hown hK hP 0 rfl rfl 0 (by decide) hf16 (fun _ h9 => h9) rfl dX1_ownerAt_1 ?_
  refine lv_iload_n hx hb dX1_ownerAt_4 rfl (lv_at hl 1 rfl) ?_
  refine lv_iconst (v := 2) hx hb dX1_ownerAt_5 (by decide) ?_
  refine rcV (As := [.int r, .int 2]) (rest := []) (ci := 3) ⟨hx, hb, hml, hown, hts⟩ (kX3_at l D cI cZ hN aN 200 5 nn N r 2 (by first | assumption | omega)) (cwV 2 hts gX1_ownerAt_X3_at rfl rfl rfl (by decide +kernel) ⟨Nat.le_of_ble_eq_true rfl, Nat.le_of_ble_eq_true rfl⟩) hK hP [1, 2] rfl rfl rfl rfl rfl hl.1 rfl (Nat.le_of_ble_eq_true rfl) ⟨Nat.zero_le _, Nat.zero_le _⟩ dX1_ownerAt_6 ?_
  exact rd_iret hx hb hr hlocks dX1_ownerAt_9 (by rfl)
set_option maxHeartbeats 4000000 in
set_option maxRecDepth 100000 in
theorem kX1_spanNumberAt (l : Launch) (D : va_G) (cI cZ : ClassId) (na hN aN nn : Nat) (N : Nat → Nat → Int32) (pe hP_ aP np : Nat) (P : Nat → Nat → Int32) (r : Int32) (hnn : nn ≤ 200) (hnp : np ≤ 24) : Met l yX1_spanNumberAt wsX1_spanNumberAt ({ frames := 2, cells := 0, slots := 0, locals := 44 } : Room) (RdP D [(cI, .int), (cZ, .boolean)] [.ref na, .int r] [(na, .inr (1, [.ref hN, .ref pe])), (hN, .inr (3, [.int (nI 200), .int (nI 5), .ref aN, .int (nI nn)])), (aN, .inl (cI, 200 * 5, .inl (fl 5 N))), (pe, .inr (2, [.ref hP_])), (hP_, .inr (3, [.int (nI 24), .int (nI 6), .ref aP, .int (nI np)])), (aP, .inl (cI, 24 * 6, .inl (fl 6 P)))]) (QcRead (tat nn 5 N r 4)) 0 0 (fun _ => False) := by
  refine rd_of (cc := cX1_spanNumberAt) (maxL := 2) (ret := (some .int)) (by decide) rfl (Nat.le_of_ble_eq_true rfl) ?_
  intro pp ee ss mm bw me cd ls hx hb hr hts hown hlocks hml hP hK hl
  have hl : lv_has ls 2 [(0, .ref na), (1, .int r)] := hl
  have hf16 := hts (.fieldLink RX1 16 "OtherNames$Names" "rows" "LOtherNames$Rows;") (by decide +kernel)
  have hin1 := (show ∀ w ∈ wsX10, w ∈ wsX1_spanNumberAt by decide +kernel)
  refine lv_aload_n hx hb dX1_spanNumberAt_0 rfl (lv_at hl 0 rfl) ?_
  refine va_get (D := D) (ci := 1) (v := .ref hN) (C := RX1) (T := TX1) (N := 2) hx hb hts hin1 hown hK hP 0 rfl rfl 0 (by decide) hf16 (fun _ h9 => h9) rfl dX1_spanNumberAt_1 ?_
  refine lv_iload_n hx hb dX1_spanNumberAt_4 rfl (lv_at hl 1 rfl) ?_
  refine lv_iconst (v := 4) hx hb dX1_spanNumberAt_5 (by decide) ?_
  refine rcV (As := [.int r, .int 4]) (rest := []) (ci := 3) ⟨hx, hb, hml, hown, hts⟩ (kX3_at l D cI cZ hN aN 200 5 nn N r 4 (by first | assumption | omega)) (cwV 2 hts gX1_spanNumberAt_X3_at rfl rfl rfl (by decide +kernel) ⟨Nat.le_of_ble_eq_true rfl, Nat.le_of_ble_eq_true rfl⟩) hK hP [1, 2] rfl rfl rfl rfl rfl hl.1 rfl (Nat.le_of_ble_eq_true rfl) ⟨Nat.zero_le _, Nat.zero_le _⟩ dX1_spanNumberAt_6 ?_
  exact rd_iret hx hb hr hlocks dX1_spanNumberAt_9 (by rfl)
set_option maxHeartbeats 4000000 in
set_option maxRecDepth 100000 in
theorem kX1_add (l : Launch) (D : va_G) (cI cZ : ClassId) (na hN aN nn : Nat) (N : Nat → Nat → Int32) (pe hP_ aP np : Nat) (P : Nat → Nat → Int32) (a : Int32) (b : Int32) (c : Int32) (d : Int32) (e : Int32) (hnn : nn ≤ 200) (hnp : np ≤ 24) : Met l yX1_add wsX1_add ({ frames := 2, cells := 0, slots := 0, locals := 45 } : Room) (MuP D [(cI, .int), (cZ, .boolean)] [.ref na, .int a, .int b, .int c, .int d, .int e] [(na, .inr (1, [.ref hN, .ref pe])), (hN, .inr (3, [.int (nI 200), .int (nI 5), .ref aN, .int (nI nn)])), (aN, .inl (cI, 200 * 5, .inl (fl 5 N))), (pe, .inr (2, [.ref hP_])), (hP_, .inr (3, [.int (nI 24), .int (nI 6), .ref aP, .int (nI np)])), (aP, .inl (cI, 24 * 6, .inl (fl 6 P)))]) (QM D (some (.int (arow 200 nn))) [(na, .inr (1, [.ref hN, .ref pe])), (hN, .inr (3, [.int (nI 200), .int (nI 5), .ref aN, .int (nI nn)])), (aN, .inl (cI, 200 * 5, .inl (fl 5 N))), (pe, .inr (2, [.ref hP_])), (hP_, .inr (3, [.int (nI 24), .int (nI 6), .ref aP, .int (nI np)])), (aP, .inl (cI, 24 * 6, .inl (fl 6 P)))] [(na, .inr (1, [.ref hN, .ref pe])), (hN, .inr (3, [.int (nI 200), .int (nI 5), .ref aN, .int (nI (adn 200 nn))])), (aN, .inl (cI, 200 * 5, .inl (fl 5 (naddT nn N a b c d e)))), (pe, .inr (2, [.ref hP_])), (hP_, .inr (3, [.int (nI 24), .int (nI 6), .ref aP, .int (nI np)])), (aP, .inl (cI, 24 * 6, .inl (fl 6 P)))]) 0 0 (adr [(na, .inr (1, [.ref hN, .ref pe])), (hN, .inr (3, [.int (nI 200), .int (nI 5), .ref aN, .int (nI nn)])), (aN, .inl (cI, 200 * 5, .inl (fl 5 N))), (pe, .inr (2, [.ref hP_])), (hP_, .inr (3, [.int (nI 24), .int (nI 6), .ref aP, .int (nI np)])), (aP, .inl (cI, 24 * 6, .inl (fl 6 P)))]) := by
  refine mu_of (cc := cX1_add) (maxL := 7) (ret := (some .int)) (by decide) rfl (Nat.le_of_ble_eq_true rfl) ?_
  intro pp ee ss mm bw me cd ls hx hb hr hts hown hlocks hml hK hl H locs hP hD hS
  have hl : lv_has ls 7 [(0, .ref na), (1, .int a), (2, .int b), (3, .int c), (4, .int d), (5, .int e)] := hl
  have hf16 := hts (.fieldLink RX1 16 "OtherNames$Names" "rows" "LOtherNames$Rows;") (by decide +kernel)
  have hin1 := (show ∀ w ∈ wsX10, w ∈ wsX1_add by decide +kernel)
  refine lv_aload_n hx hb dX1_add_0 rfl (lv_at hl 0 rfl) ?_
  refine va_get (D := D) (ci := 1) (v := .ref hN) (C := RX1) (T := TX1) (N := 2) hx hb hts hin1 hown hK hP 0 rfl rfl 0 (by decide) hf16 (fun _ h9 => h9) rfl dX1_add_1 ?_
  refine mcV (As := []) (rest := []) (ci := 3) (wn := [(na, .inr (1, [.ref hN, .ref pe])), (hN, .inr (3, [.int (nI 200), .int (nI 5), .ref aN, .int (nI (adn 200 nn))])), (aN, .inl (cI, 200 * 5, .inl (fl 5 N))), (pe, .inr (2, [.ref hP_])), (hP_, .inr (3, [.int (nI 24), .int (nI 6), .ref aP, .int (nI np)])), (aP, .inl (cI, 24 * 6, .inl (fl 6 P)))]) ⟨hx, hb, hml, hown, hts⟩ (kX3_addRow l D cI cZ hN aN 200 5 nn N (by first | assumption | omega)) (cwV 0 hts gX1_add_X3_addRow rfl rfl rfl (by decide +kernel) ⟨Nat.le_of_ble_eq_true rfl, Nat.le_of_ble_eq_true rfl⟩) hK hP hD hS [1, 2] rfl rfl rfl rfl rfl rfl rfl rfl rfl hl.1 rfl (Nat.le_of_ble_eq_true rfl) ⟨Nat.zero_le _, Nat.zero_le _⟩ dX1_add_4 (fun H locs hP hD hS => ?_)
  refine W.eq (g2 := F0 mm 7 ls (.int (arow 200 nn) :: [])) rfl ?_
  refine lv_istore (lv' := [(6, .int (arow 200 nn)), (0, .ref na), (1, .int a), (2, .int b), (3, .int c), (4, .int d), (5, .int e)]) hx hb dX1_add_7 hl (by decide) rfl (fun ls hl => ?_)
  refine lv_aload_n hx hb dX1_add_9 rfl (lv_at hl 1 rfl) ?_
  refine va_get (D := D) (ci := 1) (v := .ref hN) (C := RX1) (T := TX1) (N := 2) hx hb hts hin1 hown hK hP 0 rfl rfl 0 (by decide) hf16 (fun _ h9 => h9) rfl dX1_add_10 ?_
  refine lv_iload hx hb dX1_add_13 (lv_at hl 0 rfl) ?_
  refine lv_iconst (v := 0) hx hb dX1_add_15 (by decide) ?_
  refine lv_iload_n hx hb dX1_add_16 rfl (lv_at hl 2 rfl) ?_
  refine mcV (As := [.int (arow 200 nn), .int 0, .int a]) (rest := []) (ci := 3) (wn := [(na, .inr (1, [.ref hN, .ref pe])), (hN, .inr (3, [.int (nI 200), .int (nI 5), .ref aN, .int (nI (adn 200 nn))])), (aN, .inl (cI, 200 * 5, .inl (fl 5 (tput (adn 200 nn) 5 N (arow 200 nn) 0 a)))), (pe, .inr (2, [.ref hP_])), (hP_, .inr (3, [.int (nI 24), .int (nI 6), .ref aP, .int (nI np)])), (aP, .inl (cI, 24 * 6, .inl (fl 6 P)))]) ⟨hx, hb, hml, hown, hts⟩ (kX3_put l D cI cZ hN aN 200 5 (adn 200 nn) N (arow 200 nn) 0 a (by have := adn_le hnn; omega)) (cwV 3 hts gX1_add_X3_put rfl rfl rfl (by decide +kernel) ⟨Nat.le_of_ble_eq_true rfl, Nat.le_of_ble_eq_true rfl⟩) hK hP hD hS [1, 2] rfl rfl rfl rfl rfl rfl rfl rfl rfl hl.1 rfl (Nat.le_of_ble_eq_true rfl) ⟨Nat.zero_le _, Nat.zero_le _⟩ dX1_add_17 (fun H locs hP hD hS => ?_)
  refine W.eq (g2 := F0 mm 20 ls []) rfl ?_
  refine lv_aload_n hx hb dX1_add_20 rfl (lv_at hl 1 rfl) ?_
  refine va_get (D := D) (ci := 1) (v := .ref hN) (C := RX1) (T := TX1) (N := 2) hx hb hts hin1 hown hK hP 0 rfl rfl 0 (by decide) hf16 (fun _ h9 => h9) rfl dX1_add_21 ?_
  refine lv_iload hx hb dX1_add_24 (lv_at hl 0 rfl) ?_
  refine lv_iconst (v := 1) hx hb dX1_add_26 (by decide) ?_
  refine lv_iload_n hx hb dX1_add_27 rfl (lv_at hl 3 rfl) ?_
  refine mcV (As := [.int (arow 200 nn), .int 1, .int b]) (rest := []) (ci := 3) (wn := [(na, .inr (1, [.ref hN, .ref pe])), (hN, .inr (3, [.int (nI 200), .int (nI 5), .ref aN, .int (nI (adn 200 nn))])), (aN, .inl (cI, 200 * 5, .inl (fl 5 (tput (adn 200 nn) 5 (tput (adn 200 nn) 5 N (arow 200 nn) 0 a) (arow 200 nn) 1 b)))), (pe, .inr (2, [.ref hP_])), (hP_, .inr (3, [.int (nI 24), .int (nI 6), .ref aP, .int (nI np)])), (aP, .inl (cI, 24 * 6, .inl (fl 6 P)))]) ⟨hx, hb, hml, hown, hts⟩ (kX3_put l D cI cZ hN aN 200 5 (adn 200 nn) (tput (adn 200 nn) 5 N (arow 200 nn) 0 a) (arow 200 nn) 1 b (by have := adn_le hnn; omega)) (cwV 3 hts gX1_add_X3_put rfl rfl rfl (by decide +kernel) ⟨Nat.le_of_ble_eq_true rfl, Nat.le_of_ble_eq_true rfl⟩) hK hP hD hS [1, 2] rfl rfl rfl rfl rfl rfl rfl rfl rfl hl.1 rfl (Nat.le_of_ble_eq_true rfl) ⟨Nat.zero_le _, Nat.zero_le _⟩ dX1_add_28 (fun H locs hP hD hS => ?_)
  refine W.eq (g2 := F0 mm 31 ls []) rfl ?_
  refine lv_aload_n hx hb dX1_add_31 rfl (lv_at hl 1 rfl) ?_
  refine va_get (D := D) (ci := 1) (v := .ref hN) (C := RX1) (T := TX1) (N := 2) hx hb hts hin1 hown hK hP 0 rfl rfl 0 (by decide) hf16 (fun _ h9 => h9) rfl dX1_add_32 ?_
  refine lv_iload hx hb dX1_add_35 (lv_at hl 0 rfl) ?_
  refine lv_iconst (v := 2) hx hb dX1_add_37 (by decide) ?_
  refine lv_iload_n hx hb dX1_add_38 rfl (lv_at hl 4 rfl) ?_
  refine mcV (As := [.int (arow 200 nn), .int 2, .int c]) (rest := []) (ci := 3) (wn := [(na, .inr (1, [.ref hN, .ref pe])), (hN, .inr (3, [.int (nI 200), .int (nI 5), .ref aN, .int (nI (adn 200 nn))])), (aN, .inl (cI, 200 * 5, .inl (fl 5 (tput (adn 200 nn) 5 (tput (adn 200 nn) 5 (tput (adn 200 nn) 5 N (arow 200 nn) 0 a) (arow 200 nn) 1 b) (arow 200 nn) 2 c)))), (pe, .inr (2, [.ref hP_])), (hP_, .inr (3, [.int (nI 24), .int (nI 6), .ref aP, .int (nI np)])), (aP, .inl (cI, 24 * 6, .inl (fl 6 P)))]) ⟨hx, hb, hml, hown, hts⟩ (kX3_put l D cI cZ hN aN 200 5 (adn 200 nn) (tput (adn 200 nn) 5 (tput (adn 200 nn) 5 N (arow 200 nn) 0 a) (arow 200 nn) 1 b) (arow 200 nn) 2 c (by have := adn_le hnn; omega)) (cwV 3 hts gX1_add_X3_put rfl rfl rfl (by decide +kernel) ⟨Nat.le_of_ble_eq_true rfl, Nat.le_of_ble_eq_true rfl⟩) hK hP hD hS [1, 2] rfl rfl rfl rfl rfl rfl rfl rfl rfl hl.1 rfl (Nat.le_of_ble_eq_true rfl) ⟨Nat.zero_le _, Nat.zero_le _⟩ dX1_add_39 (fun H locs hP hD hS => ?_)
  refine W.eq (g2 := F0 mm 42 ls []) rfl ?_
  refine lv_aload_n hx hb dX1_add_42 rfl (lv_at hl 1 rfl) ?_
  refine va_get (D := D) (ci := 1) (v := .ref hN) (C := RX1) (T := TX1) (N := 2) hx hb hts hin1 hown hK hP 0 rfl rfl 0 (by decide) hf16 (fun _ h9 => h9) rfl dX1_add_43 ?_
  refine lv_iload hx hb dX1_add_46 (lv_at hl 0 rfl) ?_
  refine lv_iconst (v := 3) hx hb dX1_add_48 (by decide) ?_
  refine lv_iload hx hb dX1_add_49 (lv_at hl 5 rfl) ?_
  refine mcV (As := [.int (arow 200 nn), .int 3, .int d]) (rest := []) (ci := 3) (wn := [(na, .inr (1, [.ref hN, .ref pe])), (hN, .inr (3, [.int (nI 200), .int (nI 5), .ref aN, .int (nI (adn 200 nn))])), (aN, .inl (cI, 200 * 5, .inl (fl 5 (tput (adn 200 nn) 5 (tput (adn 200 nn) 5 (tput (adn 200 nn) 5 (tput (adn 200 nn) 5 N (arow 200 nn) 0 a) (arow 200 nn) 1 b) (arow 200 nn) 2 c) (arow 200 nn) 3 d)))), (pe, .inr (2, [.ref hP_])), (hP_, .inr (3, [.int (nI 24), .int (nI 6), .ref aP, .int (nI np)])), (aP, .inl (cI, 24 * 6, .inl (fl 6 P)))]) ⟨hx, hb, hml, hown, hts⟩ (kX3_put l D cI cZ hN aN 200 5 (adn 200 nn) (tput (adn 200 nn) 5 (tput (adn 200 nn) 5 (tput (adn 200 nn) 5 N (arow 200 nn) 0 a) (arow 200 nn) 1 b) (arow 200 nn) 2 c) (arow 200 nn) 3 d (by have := adn_le hnn; omega)) (cwV 3 hts gX1_add_X3_put rfl rfl rfl (by decide +kernel) ⟨Nat.le_of_ble_eq_true rfl, Nat.le_of_ble_eq_true rfl⟩) hK hP hD hS [1, 2] rfl rfl rfl rfl rfl rfl rfl rfl rfl hl.1 rfl (Nat.le_of_ble_eq_true rfl) ⟨Nat.zero_le _, Nat.zero_le _⟩ dX1_add_51 (fun H locs hP hD hS => ?_)
  refine W.eq (g2 := F0 mm 54 ls []) rfl ?_
  refine lv_aload_n hx hb dX1_add_54 rfl (lv_at hl 1 rfl) ?_
  refine va_get (D := D) (ci := 1) (v := .ref hN) (C := RX1) (T := TX1) (N := 2) hx hb hts hin1 hown hK hP 0 rfl rfl 0 (by decide) hf16 (fun _ h9 => h9) rfl dX1_add_55 ?_
  refine lv_iload hx hb dX1_add_58 (lv_at hl 0 rfl) ?_
  refine lv_iconst (v := 4) hx hb dX1_add_60 (by decide) ?_
  refine lv_iload hx hb dX1_add_61 (lv_at hl 6 rfl) ?_
  refine mcV (As := [.int (arow 200 nn), .int 4, .int e]) (rest := []) (ci := 3) (wn := [(na, .inr (1, [.ref hN, .ref pe])), (hN, .inr (3, [.int (nI 200), .int (nI 5), .ref aN, .int (nI (adn 200 nn))])), (aN, .inl (cI, 200 * 5, .inl (fl 5 (tput (adn 200 nn) 5 (tput (adn 200 nn) 5 (tput (adn 200 nn) 5 (tput (adn 200 nn) 5 (tput (adn 200 nn) 5 N (arow 200 nn) 0 a) (arow 200 nn) 1 b) (arow 200 nn) 2 c) (arow 200 nn) 3 d) (arow 200 nn) 4 e)))), (pe, .inr (2, [.ref hP_])), (hP_, .inr (3, [.int (nI 24), .int (nI 6), .ref aP, .int (nI np)])), (aP, .inl (cI, 24 * 6, .inl (fl 6 P)))]) ⟨hx, hb, hml, hown, hts⟩ (kX3_put l D cI cZ hN aN 200 5 (adn 200 nn) (tput (adn 200 nn) 5 (tput (adn 200 nn) 5 (tput (adn 200 nn) 5 (tput (adn 200 nn) 5 N (arow 200 nn) 0 a) (arow 200 nn) 1 b) (arow 200 nn) 2 c) (arow 200 nn) 3 d) (arow 200 nn) 4 e (by have := adn_le hnn; omega)) (cwV 3 hts gX1_add_X3_put rfl rfl rfl (by decide +kernel) ⟨Nat.le_of_ble_eq_true rfl, Nat.le_of_ble_eq_true rfl⟩) hK hP hD hS [1, 2] rfl rfl rfl rfl rfl rfl rfl rfl rfl hl.1 rfl (Nat.le_of_ble_eq_true rfl) ⟨Nat.zero_le _, Nat.zero_le _⟩ dX1_add_63 (fun H locs hP hD hS => ?_)
  refine W.eq (g2 := F0 mm 66 ls []) rfl ?_
  refine lv_iload hx hb dX1_add_66 (lv_at hl 0 rfl) ?_
  refine mu_iret hx hb hr hlocks hS dX1_add_68 ?_ ?_
  · rfl
  have q0 : (fl 5 (naddT nn N a b c d e)) = (fl 5 (tput (adn 200 nn) 5 (tput (adn 200 nn) 5 (tput (adn 200 nn) 5 (tput (adn 200 nn) 5 (tput (adn 200 nn) 5 N (arow 200 nn) 0 a) (arow 200 nn) 1 b) (arow 200 nn) 2 c) (arow 200 nn) 3 d) (arow 200 nn) 4 e)) := by rfl
  rw [q0]
  exact hP
set_option maxHeartbeats 4000000 in
set_option maxRecDepth 100000 in
theorem kX1_find (l : Launch) (D : va_G) (cI cZ : ClassId) (na hN aN nn : Nat) (N : Nat → Nat → Int32) (pe hP_ aP np : Nat) (P : Nat → Nat → Int32) (h : Int32) (nm : Int32) (hnn : nn ≤ 200) (hnp : np ≤ 24) : Met l yX1_find wsX1_find ({ frames := 3, cells := 0, slots := 0, locals := 65 } : Room) (RdP D [(cI, .int), (cZ, .boolean)] [.ref na, .int h, .int nm] [(na, .inr (1, [.ref hN, .ref pe])), (hN, .inr (3, [.int (nI 200), .int (nI 5), .ref aN, .int (nI nn)])), (aN, .inl (cI, 200 * 5, .inl (fl 5 N))), (pe, .inr (2, [.ref hP_])), (hP_, .inr (3, [.int (nI 24), .int (nI 6), .ref aP, .int (nI np)])), (aP, .inl (cI, 24 * 6, .inl (fl 6 P)))]) (QcRead (fsI (fdB N h nm) nn)) 0 0 (fun _ => False) := by
  refine rd_of (cc := cX1_find) (maxL := 4) (ret := (some .int)) (by decide) rfl (Nat.le_of_ble_eq_true rfl) ?_
  intro pp ee ss mm bw me cd ls hx hb hr hts hown hlocks hml hP hK hl
  have hl : lv_has ls 4 [(0, .ref na), (1, .int h), (2, .int nm)] := hl
  have hf16 := hts (.fieldLink RX1 16 "OtherNames$Names" "rows" "LOtherNames$Rows;") (by decide +kernel)
  have hin1 := (show ∀ w ∈ wsX10, w ∈ wsX1_find by decide +kernel)
  refine lv_iconst (v := 0) hx hb dX1_find_0 (by decide) ?_
  refine lv_istore_n (lv' := [(3, .int 0), (0, .ref na), (1, .int h), (2, .int nm)]) hx hb dX1_find_1 rfl hl (by decide) rfl (fun ls hl => ?_)
  have loop : ∀ (k : Nat) (i : Nat) (ls : Array Slot), i ≤ nn → (∀ j, j < i → fdB N h nm j = false) → nn < i + k → lv_has ls 4 [(0, .ref na), (1, .int h), (2, .int nm), (3, .int (nI i))] → W pp l ee ({ frames := 3, cells := 0, slots := 0, locals := 65 } : Room) ss mm ([.ref na, .int h, .int nm] : List Value).toArray bw me cd ss.heap [] 0 0 (MQ bw (QcRead (fsI (fdB N h nm) nn)) ([.ref na, .int h, .int nm] : List Value).toArray ss 0 0 (fun _ => False)) (F0 mm 2 ls []) := by
    intro k
    induction k with
    | zero => intro i ls hi hno hk; exact absurd hk (by omega)
    | succ k ih =>
      intro i ls hi hno hk hl
      refine lv_iload_n hx hb dX1_find_2 rfl (lv_at hl 3 rfl) ?_
      refine lv_aload_n hx hb dX1_find_3 rfl (lv_at hl 0 rfl) ?_
      refine va_get (D := D) (ci := 1) (v := .ref hN) (C := RX1) (T := TX1) (N := 2) hx hb hts hin1 hown hK hP 0 rfl rfl 0 (by decide) hf16 (fun _ h9 => h9) rfl dX1_find_4 ?_
      refine rcV (As := []) (rest := [.int (nI i)]) (ci := 3) ⟨hx, hb, hml, hown, hts⟩ (kX3_size l D cI cZ hN aN 200 5 nn N (by first | assumption | omega)) (cwV 0 hts gX1_find_X3_size rfl rfl rfl (by decide +kernel) ⟨Nat.le_of_ble_eq_true rfl, Nat.le_of_ble_eq_true rfl⟩) hK hP [1, 2] rfl rfl rfl rfl rfl hl.1 rfl (Nat.le_of_ble_eq_true rfl) ⟨Nat.zero_le _, Nat.zero_le _⟩ dX1_find_7 ?_
      refine lv_icmp_ge (tgt := 43) hx hb dX1_find_10 (by decide) (fun c_10 => ?_) (fun c_10 => ?_)
      · skip
        have hi2 : i = nn := Nat.le_antisymm hi (lit_T c_10 nn rfl (by omega) (by omega))
        refine lv_iconst (v := (-1)) hx hb dX1_find_43 (by decide) ?_
        exact rd_iret hx hb hr hlocks dX1_find_44 (by rw [hi2] at hno; rw [fsI_none hno])
      · skip
        have hi2 : i < nn := lit_F c_10 nn rfl (by omega) (by omega)
        refine lv_aload_n hx hb dX1_find_13 rfl (lv_at hl 0 rfl) ?_
        refine va_get (D := D) (ci := 1) (v := .ref hN) (C := RX1) (T := TX1) (N := 2) hx hb hts hin1 hown hK hP 0 rfl rfl 0 (by decide) hf16 (fun _ h9 => h9) rfl dX1_find_14 ?_
        refine lv_iload_n hx hb dX1_find_17 rfl (lv_at hl 3 rfl) ?_
        refine lv_iconst (v := 0) hx hb dX1_find_18 (by decide) ?_
        refine rcV (As := [.int (nI i), .int 0]) (rest := []) (ci := 3) ⟨hx, hb, hml, hown, hts⟩ (kX3_at l D cI cZ hN aN 200 5 nn N (nI i) 0 (by first | assumption | omega)) (cwV 2 hts gX1_find_X3_at rfl rfl rfl (by decide +kernel) ⟨Nat.le_of_ble_eq_true rfl, Nat.le_of_ble_eq_true rfl⟩) hK hP [1, 2] rfl rfl rfl rfl rfl hl.1 rfl (Nat.le_of_ble_eq_true rfl) ⟨Nat.zero_le _, Nat.zero_le _⟩ dX1_find_19 ?_
        rw [show tat nn 5 N (nI i) 0 = (N 0 i) from tat_nI (c := 0) (by omega) (by omega) hi2 (by omega)]
        refine lv_iload_n hx hb dX1_find_22 rfl (lv_at hl 1 rfl) ?_
        refine lv_icmp_ne (tgt := 37) hx hb dX1_find_23 (by decide) (fun c_23 => ?_) (fun c_23 => ?_)
        · skip
          refine lv_iinc (v := (nI i) + 1) (lv' := [(3, .int (((nI i) + 1))), (0, .ref na), (1, .int h), (2, .int nm)]) hx hb dX1_find_37 hl (k := 3) rfl rfl (by decide) rfl (fun ls hl => ?_)
          refine lv_goto (tgt := 2) hx hb dX1_find_40 (by decide) ?_
          rw [nI_1 i] at hl
          exact ih (i + 1) ls (by omega) (noS hno (by simp [fdB, c_10, c_23])) (by omega) (lv_sub hl [1, 2, 3, 0] rfl)
        · skip
          refine lv_aload_n hx hb dX1_find_26 rfl (lv_at hl 0 rfl) ?_
          refine lv_iload_n hx hb dX1_find_27 rfl (lv_at hl 3 rfl) ?_
          refine rcV (As := [.int (nI i)]) (rest := []) (ci := 1) ⟨hx, hb, hml, hown, hts⟩ (kX1_nameAt l D cI cZ na hN aN nn N pe hP_ aP np P (nI i) (by first | assumption | omega) (by first | assumption | omega)) (cwV 1 hts gX1_find_X1_nameAt rfl rfl rfl (by decide +kernel) ⟨Nat.le_of_ble_eq_true rfl, Nat.le_of_ble_eq_true rfl⟩) hK hP [0, 1, 2, 3, 4, 5] rfl rfl rfl rfl rfl hl.1 rfl (Nat.le_of_ble_eq_true rfl) ⟨Nat.zero_le _, Nat.zero_le _⟩ dX1_find_28 ?_
          rw [show tat nn 5 N (nI i) 1 = (N 1 i) from tat_nI (c := 1) (by omega) (by omega) hi2 (by omega)]
          refine lv_iload_n hx hb dX1_find_31 rfl (lv_at hl 2 rfl) ?_
          refine lv_icmp_ne (tgt := 37) hx hb dX1_find_32 (by decide) (fun c_32 => ?_) (fun c_32 => ?_)
          · skip
            refine lv_iinc (v := (nI i) + 1) (lv' := [(3, .int (((nI i) + 1))), (0, .ref na), (1, .int h), (2, .int nm)]) hx hb dX1_find_37 hl (k := 3) rfl rfl (by decide) rfl (fun ls hl => ?_)
            refine lv_goto (tgt := 2) hx hb dX1_find_40 (by decide) ?_
            rw [nI_1 i] at hl
            exact ih (i + 1) ls (by omega) (noS hno (by simp [fdB, c_10, c_23, c_32])) (by omega) (lv_sub hl [1, 2, 3, 0] rfl)
          · skip
            refine lv_iload_n hx hb dX1_find_35 rfl (lv_at hl 3 rfl) ?_
            exact rd_iret hx hb hr hlocks dX1_find_36 (by rw [fsI_some hno (by simp [fdB, c_10, c_23, c_32]) (by omega) hi2])
  exact loop (nn + 1) 0 ls (by omega) (fun j hj => absurd hj (Nat.not_lt_zero j)) (by omega) (lv_sub hl [1, 2, 3, 0] rfl)
set_option maxHeartbeats 4000000 in
set_option maxRecDepth 100000 in
theorem kX1_firstFor (l : Launch) (D : va_G) (cI cZ : ClassId) (na hN aN nn : Nat) (N : Nat → Nat → Int32) (pe hP_ aP np : Nat) (P : Nat → Nat → Int32) (h : Int32) (sp : Int32) (hh : Int32) (hnn : nn ≤ 200) (hnp : np ≤ 24) (hw : HP np (P 4)) (ho : HO nn np N) : Met l yX1_firstFor wsX1_firstFor ({ frames := 3, cells := 0, slots := 0, locals := 67 } : Room) (RdP D [(cI, .int), (cZ, .boolean)] [.ref na, .int h, .int sp, .int hh] [(na, .inr (1, [.ref hN, .ref pe])), (hN, .inr (3, [.int (nI 200), .int (nI 5), .ref aN, .int (nI nn)])), (aN, .inl (cI, 200 * 5, .inl (fl 5 N))), (pe, .inr (2, [.ref hP_])), (hP_, .inr (3, [.int (nI 24), .int (nI 6), .ref aP, .int (nI np)])), (aP, .inl (cI, 24 * 6, .inl (fl 6 P)))]) (QcRead (fsI (ffB N (P 4) h sp hh) nn)) 0 0 (fun _ => False) := by
  refine rd_of (cc := cX1_firstFor) (maxL := 6) (ret := (some .int)) (by decide) rfl (Nat.le_of_ble_eq_true rfl) ?_
  intro pp ee ss mm bw me cd ls hx hb hr hts hown hlocks hml hP hK hl
  have hl : lv_has ls 6 [(0, .ref na), (1, .int h), (2, .int sp), (3, .int hh)] := hl
  have hf16 := hts (.fieldLink RX1 16 "OtherNames$Names" "rows" "LOtherNames$Rows;") (by decide +kernel)
  have hin1 := (show ∀ w ∈ wsX10, w ∈ wsX1_firstFor by decide +kernel)
  have hf20 := hts (.fieldLink RX1 20 "OtherNames$Names" "people" "LOtherNames$People;") (by decide +kernel)
  refine lv_iconst (v := 0) hx hb dX1_firstFor_0 (by decide) ?_
  refine lv_istore (lv' := [(4, .int 0), (0, .ref na), (1, .int h), (2, .int sp), (3, .int hh)]) hx hb dX1_firstFor_1 hl (by decide) rfl (fun ls hl => ?_)
  have loop : ∀ (k : Nat) (i : Nat) (ls : Array Slot), i ≤ nn → (∀ j, j < i → ffB N (P 4) h sp hh j = false) → nn < i + k → lv_has ls 6 [(0, .ref na), (1, .int h), (2, .int sp), (3, .int hh), (4, .int (nI i))] → W pp l ee ({ frames := 3, cells := 0, slots := 0, locals := 67 } : Room) ss mm ([.ref na, .int h, .int sp, .int hh] : List Value).toArray bw me cd ss.heap [] 0 0 (MQ bw (QcRead (fsI (ffB N (P 4) h sp hh) nn)) ([.ref na, .int h, .int sp, .int hh] : List Value).toArray ss 0 0 (fun _ => False)) (F0 mm 3 ls []) := by
    intro k
    induction k with
    | zero => intro i ls hi hno hk; exact absurd hk (by omega)
    | succ k ih =>
      intro i ls hi hno hk hl
      refine lv_iload hx hb dX1_firstFor_3 (lv_at hl 4 rfl) ?_
      refine lv_aload_n hx hb dX1_firstFor_5 rfl (lv_at hl 0 rfl) ?_
      refine va_get (D := D) (ci := 1) (v := .ref hN) (C := RX1) (T := TX1) (N := 2) hx hb hts hin1 hown hK hP 0 rfl rfl 0 (by decide) hf16 (fun _ h9 => h9) rfl dX1_firstFor_6 ?_
      refine rcV (As := []) (rest := [.int (nI i)]) (ci := 3) ⟨hx, hb, hml, hown, hts⟩ (kX3_size l D cI cZ hN aN 200 5 nn N (by first | assumption | omega)) (cwV 0 hts gX1_firstFor_X3_size rfl rfl rfl (by decide +kernel) ⟨Nat.le_of_ble_eq_true rfl, Nat.le_of_ble_eq_true rfl⟩) hK hP [1, 2] rfl rfl rfl rfl rfl hl.1 rfl (Nat.le_of_ble_eq_true rfl) ⟨Nat.zero_le _, Nat.zero_le _⟩ dX1_firstFor_9 ?_
      refine lv_icmp_ge (tgt := 77) hx hb dX1_firstFor_12 (by decide) (fun c_12 => ?_) (fun c_12 => ?_)
      · skip
        have hi2 : i = nn := Nat.le_antisymm hi (lit_T c_12 nn rfl (by omega) (by omega))
        refine lv_iconst (v := (-1)) hx hb dX1_firstFor_77 (by decide) ?_
        exact rd_iret hx hb hr hlocks dX1_firstFor_78 (by rw [hi2] at hno; rw [fsI_none hno])
      · skip
        have hi2 : i < nn := lit_F c_12 nn rfl (by omega) (by omega)
        refine lv_aload_n hx hb dX1_firstFor_15 rfl (lv_at hl 0 rfl) ?_
        refine va_get (D := D) (ci := 1) (v := .ref hN) (C := RX1) (T := TX1) (N := 2) hx hb hts hin1 hown hK hP 0 rfl rfl 0 (by decide) hf16 (fun _ h9 => h9) rfl dX1_firstFor_16 ?_
        refine lv_iload hx hb dX1_firstFor_19 (lv_at hl 4 rfl) ?_
        refine lv_iconst (v := 0) hx hb dX1_firstFor_21 (by decide) ?_
        refine rcV (As := [.int (nI i), .int 0]) (rest := []) (ci := 3) ⟨hx, hb, hml, hown, hts⟩ (kX3_at l D cI cZ hN aN 200 5 nn N (nI i) 0 (by first | assumption | omega)) (cwV 2 hts gX1_firstFor_X3_at rfl rfl rfl (by decide +kernel) ⟨Nat.le_of_ble_eq_true rfl, Nat.le_of_ble_eq_true rfl⟩) hK hP [1, 2] rfl rfl rfl rfl rfl hl.1 rfl (Nat.le_of_ble_eq_true rfl) ⟨Nat.zero_le _, Nat.zero_le _⟩ dX1_firstFor_22 ?_
        rw [show tat nn 5 N (nI i) 0 = (N 0 i) from tat_nI (c := 0) (by omega) (by omega) hi2 (by omega)]
        refine lv_iload_n hx hb dX1_firstFor_25 rfl (lv_at hl 1 rfl) ?_
        refine lv_icmp_ne (tgt := 43) hx hb dX1_firstFor_26 (by decide) (fun c_26 => ?_) (fun c_26 => ?_)
        · skip
          refine lv_iconst (v := 0) hx hb dX1_firstFor_43 (by decide) ?_
          refine lv_istore (lv' := [(5, .int 0), (0, .ref na), (1, .int h), (2, .int sp), (3, .int hh), (4, .int (nI i))]) hx hb dX1_firstFor_44 hl (by decide) rfl (fun ls hl => ?_)
          refine lv_iload hx hb dX1_firstFor_46 (lv_at hl 0 rfl) ?_
          refine lv_if_eq (tgt := 71) hx hb dX1_firstFor_48 (by decide) (fun _ => ?_) (fun c9 => absurd c9 (by decide))
          refine lv_iinc (v := (nI i) + 1) (lv' := [(4, .int (((nI i) + 1))), (5, .int 0), (0, .ref na), (1, .int h), (2, .int sp), (3, .int hh)]) hx hb dX1_firstFor_71 hl (k := 5) rfl rfl (by decide) rfl (fun ls hl => ?_)
          refine lv_goto (tgt := 3) hx hb dX1_firstFor_74 (by decide) ?_
          rw [nI_1 i] at hl
          exact ih (i + 1) ls (by omega) (noS hno (by simp [ffB, c_12, c_26])) (by omega) (lv_sub hl [2, 3, 4, 5, 0] rfl)
        · skip
          refine lv_aload_n hx hb dX1_firstFor_29 rfl (lv_at hl 0 rfl) ?_
          refine lv_iload hx hb dX1_firstFor_30 (lv_at hl 4 rfl) ?_
          refine rcV (As := [.int (nI i)]) (rest := []) (ci := 1) ⟨hx, hb, hml, hown, hts⟩ (kX1_spanNumberAt l D cI cZ na hN aN nn N pe hP_ aP np P (nI i) (by first | assumption | omega) (by first | assumption | omega)) (cwV 1 hts gX1_firstFor_X1_spanNumberAt rfl rfl rfl (by decide +kernel) ⟨Nat.le_of_ble_eq_true rfl, Nat.le_of_ble_eq_true rfl⟩) hK hP [0, 1, 2, 3, 4, 5] rfl rfl rfl rfl rfl hl.1 rfl (Nat.le_of_ble_eq_true rfl) ⟨Nat.zero_le _, Nat.zero_le _⟩ dX1_firstFor_32 ?_
          rw [show tat nn 5 N (nI i) 4 = (N 4 i) from tat_nI (c := 4) (by omega) (by omega) hi2 (by omega)]
          refine lv_iload_n hx hb dX1_firstFor_35 rfl (lv_at hl 2 rfl) ?_
          refine lv_icmp_ne (tgt := 43) hx hb dX1_firstFor_36 (by decide) (fun c_36 => ?_) (fun c_36 => ?_)
          · skip
            refine lv_iconst (v := 0) hx hb dX1_firstFor_43 (by decide) ?_
            refine lv_istore (lv' := [(5, .int 0), (0, .ref na), (1, .int h), (2, .int sp), (3, .int hh), (4, .int (nI i))]) hx hb dX1_firstFor_44 hl (by decide) rfl (fun ls hl => ?_)
            refine lv_iload hx hb dX1_firstFor_46 (lv_at hl 0 rfl) ?_
            refine lv_if_eq (tgt := 71) hx hb dX1_firstFor_48 (by decide) (fun _ => ?_) (fun c9 => absurd c9 (by decide))
            refine lv_iinc (v := (nI i) + 1) (lv' := [(4, .int (((nI i) + 1))), (5, .int 0), (0, .ref na), (1, .int h), (2, .int sp), (3, .int hh)]) hx hb dX1_firstFor_71 hl (k := 5) rfl rfl (by decide) rfl (fun ls hl => ?_)
            refine lv_goto (tgt := 3) hx hb dX1_firstFor_74 (by decide) ?_
            rw [nI_1 i] at hl
            exact ih (i + 1) ls (by omega) (noS hno (by simp [ffB, c_12, c_26, c_36])) (by omega) (lv_sub hl [2, 3, 4, 5, 0] rfl)
          · skip
            refine lv_iconst (v := 1) hx hb dX1_firstFor_39 (by decide) ?_
            refine lv_goto (tgt := 44) hx hb dX1_firstFor_40 (by decide) ?_
            refine lv_istore (lv' := [(5, .int 1), (0, .ref na), (1, .int h), (2, .int sp), (3, .int hh), (4, .int (nI i))]) hx hb dX1_firstFor_44 hl (by decide) rfl (fun ls hl => ?_)
            refine lv_iload hx hb dX1_firstFor_46 (lv_at hl 0 rfl) ?_
            refine lv_if_eq (tgt := 71) hx hb dX1_firstFor_48 (by decide) (fun c9 => absurd c9 (by decide)) (fun _ => ?_)
            refine lv_aload_n hx hb dX1_firstFor_51 rfl (lv_at hl 1 rfl) ?_
            refine va_get (D := D) (ci := 1) (v := .ref pe) (C := RX1) (T := TX1) (N := 2) hx hb hts hin1 hown hK hP 0 rfl rfl 1 (by decide) hf20 (fun _ h9 => h9) rfl dX1_firstFor_52 ?_
            refine lv_aload_n hx hb dX1_firstFor_55 rfl (lv_at hl 1 rfl) ?_
            refine lv_iload hx hb dX1_firstFor_56 (lv_at hl 5 rfl) ?_
            refine rcV (As := [.int (nI i)]) (rest := [.ref pe]) (ci := 1) ⟨hx, hb, hml, hown, hts⟩ (kX1_ownerAt l D cI cZ na hN aN nn N pe hP_ aP np P (nI i) (by first | assumption | omega) (by first | assumption | omega)) (cwV 1 hts gX1_firstFor_X1_ownerAt rfl rfl rfl (by decide +kernel) ⟨Nat.le_of_ble_eq_true rfl, Nat.le_of_ble_eq_true rfl⟩) hK hP [0, 1, 2, 3, 4, 5] rfl rfl rfl rfl rfl hl.1 rfl (Nat.le_of_ble_eq_true rfl) ⟨Nat.zero_le _, Nat.zero_le _⟩ dX1_firstFor_58 ?_
            rw [show tat nn 5 N (nI i) 2 = nI (ow N i) from (tat_nI (c := 2) (by omega) (by omega) hi2 (by omega)).trans (ho i hi2).1]
            refine rcV (As := [.int (nI (ow N i))]) (rest := []) (ci := 2) ⟨hx, hb, hml, hown, hts⟩ (kX2_headOf l D cI cZ pe hP_ aP np P (ow N i) (by first | assumption | omega) (by first | assumption | omega) (ho i hi2).2) (cwV 1 hts gX1_firstFor_X2_headOf rfl rfl rfl (by decide +kernel) ⟨Nat.le_of_ble_eq_true rfl, Nat.le_of_ble_eq_true rfl⟩) hK hP [3, 4, 5] rfl rfl rfl rfl rfl hl.1 rfl (Nat.le_of_ble_eq_true rfl) ⟨Nat.zero_le _, Nat.zero_le _⟩ dX1_firstFor_61 ?_
            refine lv_iload_n hx hb dX1_firstFor_64 rfl (lv_at hl 4 rfl) ?_
            refine lv_icmp_ne (tgt := 71) hx hb dX1_firstFor_65 (by decide) (fun c_65 => ?_) (fun c_65 => ?_)
            · skip
              refine lv_iinc (v := (nI i) + 1) (lv' := [(4, .int (((nI i) + 1))), (5, .int 1), (0, .ref na), (1, .int h), (2, .int sp), (3, .int hh)]) hx hb dX1_firstFor_71 hl (k := 5) rfl rfl (by decide) rfl (fun ls hl => ?_)
              refine lv_goto (tgt := 3) hx hb dX1_firstFor_74 (by decide) ?_
              rw [nI_1 i] at hl
              exact ih (i + 1) ls (by omega) (noS hno (by simp [ffB, c_12, c_26, c_36, c_65])) (by omega) (lv_sub hl [2, 3, 4, 5, 0] rfl)
            · skip
              refine lv_iload hx hb dX1_firstFor_68 (lv_at hl 5 rfl) ?_
              exact rd_iret hx hb hr hlocks dX1_firstFor_70 (by rw [fsI_some hno (by simp [ffB, c_12, c_26, c_36, c_65]) (by omega) hi2])
  exact loop (nn + 1) 0 ls (by omega) (fun j hj => absurd hj (Nat.not_lt_zero j)) (by omega) (lv_sub hl [1, 2, 3, 4, 0] rfl)
set_option maxHeartbeats 4000000 in
set_option maxRecDepth 100000 in
theorem kX1_leadsTo (l : Launch) (D : va_G) (cI cZ : ClassId) (na hN aN nn : Nat) (N : Nat → Nat → Int32) (pe hP_ aP np : Nat) (P : Nat → Nat → Int32) (i : Nat) (hnn : nn ≤ 200) (hnp : np ≤ 24) (hw : HP np (P 4)) (ho : HO nn np N) (hi2 : i < nn) : Met l yX1_leadsTo wsX1_leadsTo ({ frames := 4, cells := 0, slots := 0, locals := 92 } : Room) (RdP D [(cI, .int), (cZ, .boolean)] [.ref na, .int (nI i)] [(na, .inr (1, [.ref hN, .ref pe])), (hN, .inr (3, [.int (nI 200), .int (nI 5), .ref aN, .int (nI nn)])), (aN, .inl (cI, 200 * 5, .inl (fl 5 N))), (pe, .inr (2, [.ref hP_])), (hP_, .inr (3, [.int (nI 24), .int (nI 6), .ref aP, .int (nI np)])), (aP, .inl (cI, 24 * 6, .inl (fl 6 P)))]) (QcRead (fsI (ffB N (P 4) (N 0 i) (N 4 i) (nI (hd (P 4) (ow N i)))) nn)) 0 0 (fun _ => False) := by
  refine rd_of (cc := cX1_leadsTo) (maxL := 2) (ret := (some .int)) (by decide) rfl (Nat.le_of_ble_eq_true rfl) ?_
  intro pp ee ss mm bw me cd ls hx hb hr hts hown hlocks hml hP hK hl
  have hl : lv_has ls 2 [(0, .ref na), (1, .int ((nI i)))] := hl
  have hf16 := hts (.fieldLink RX1 16 "OtherNames$Names" "rows" "LOtherNames$Rows;") (by decide +kernel)
  have hin1 := (show ∀ w ∈ wsX10, w ∈ wsX1_leadsTo by decide +kernel)
  have hf20 := hts (.fieldLink RX1 20 "OtherNames$Names" "people" "LOtherNames$People;") (by decide +kernel)
  refine lv_aload_n hx hb dX1_leadsTo_0 rfl (lv_at hl 0 rfl) ?_
  refine lv_aload_n hx hb dX1_leadsTo_1 rfl (lv_at hl 0 rfl) ?_
  refine va_get (D := D) (ci := 1) (v := .ref hN) (C := RX1) (T := TX1) (N := 2) hx hb hts hin1 hown hK hP 0 rfl rfl 0 (by decide) hf16 (fun _ h9 => h9) rfl dX1_leadsTo_2 ?_
  refine lv_iload_n hx hb dX1_leadsTo_5 rfl (lv_at hl 1 rfl) ?_
  refine lv_iconst (v := 0) hx hb dX1_leadsTo_6 (by decide) ?_
  refine rcV (As := [.int ((nI i)), .int 0]) (rest := [.ref na]) (ci := 3) ⟨hx, hb, hml, hown, hts⟩ (kX3_at l D cI cZ hN aN 200 5 nn N (nI i) 0 (by first | assumption | omega)) (cwV 2 hts gX1_leadsTo_X3_at rfl rfl rfl (by decide +kernel) ⟨Nat.le_of_ble_eq_true rfl, Nat.le_of_ble_eq_true rfl⟩) hK hP [1, 2] rfl rfl rfl rfl rfl hl.1 rfl (Nat.le_of_ble_eq_true rfl) ⟨Nat.zero_le _, Nat.zero_le _⟩ dX1_leadsTo_7 ?_
  rw [show tat nn 5 N (nI i) 0 = (N 0 i) from tat_nI (c := 0) (by omega) (by omega) hi2 (by omega)]
  refine lv_aload_n hx hb dX1_leadsTo_10 rfl (lv_at hl 0 rfl) ?_
  refine lv_iload_n hx hb dX1_leadsTo_11 rfl (lv_at hl 1 rfl) ?_
  refine rcV (As := [.int ((nI i))]) (rest := [.int ((N 0 i)), .ref na]) (ci := 1) ⟨hx, hb, hml, hown, hts⟩ (kX1_spanNumberAt l D cI cZ na hN aN nn N pe hP_ aP np P (nI i) (by first | assumption | omega) (by first | assumption | omega)) (cwV 1 hts gX1_leadsTo_X1_spanNumberAt rfl rfl rfl (by decide +kernel) ⟨Nat.le_of_ble_eq_true rfl, Nat.le_of_ble_eq_true rfl⟩) hK hP [0, 1, 2, 3, 4, 5] rfl rfl rfl rfl rfl hl.1 rfl (Nat.le_of_ble_eq_true rfl) ⟨Nat.zero_le _, Nat.zero_le _⟩ dX1_leadsTo_12 ?_
  rw [show tat nn 5 N (nI i) 4 = (N 4 i) from tat_nI (c := 4) (by omega) (by omega) hi2 (by omega)]
  refine lv_aload_n hx hb dX1_leadsTo_15 rfl (lv_at hl 0 rfl) ?_
  refine va_get (D := D) (ci := 1) (v := .ref pe) (C := RX1) (T := TX1) (N := 2) hx hb hts hin1 hown hK hP 0 rfl rfl 1 (by decide) hf20 (fun _ h9 => h9) rfl dX1_leadsTo_16 ?_
  refine lv_aload_n hx hb dX1_leadsTo_19 rfl (lv_at hl 0 rfl) ?_
  refine lv_iload_n hx hb dX1_leadsTo_20 rfl (lv_at hl 1 rfl) ?_
  refine rcV (As := [.int ((nI i))]) (rest := [.ref pe, .int ((N 4 i)), .int ((N 0 i)), .ref na]) (ci := 1) ⟨hx, hb, hml, hown, hts⟩ (kX1_ownerAt l D cI cZ na hN aN nn N pe hP_ aP np P (nI i) (by first | assumption | omega) (by first | assumption | omega)) (cwV 1 hts gX1_leadsTo_X1_ownerAt rfl rfl rfl (by decide +kernel) ⟨Nat.le_of_ble_eq_true rfl, Nat.le_of_ble_eq_true rfl⟩) hK hP [0, 1, 2, 3, 4, 5] rfl rfl rfl rfl rfl hl.1 rfl (Nat.le_of_ble_eq_true rfl) ⟨Nat.zero_le _, Nat.zero_le _⟩ dX1_leadsTo_21 ?_
  rw [show tat nn 5 N (nI i) 2 = nI (ow N i) from (tat_nI (c := 2) (by omega) (by omega) hi2 (by omega)).trans (ho i hi2).1]
  refine rcV (As := [.int (nI (ow N i))]) (rest := [.int ((N 4 i)), .int ((N 0 i)), .ref na]) (ci := 2) ⟨hx, hb, hml, hown, hts⟩ (kX2_headOf l D cI cZ pe hP_ aP np P (ow N i) (by first | assumption | omega) (by first | assumption | omega) (ho i hi2).2) (cwV 1 hts gX1_leadsTo_X2_headOf rfl rfl rfl (by decide +kernel) ⟨Nat.le_of_ble_eq_true rfl, Nat.le_of_ble_eq_true rfl⟩) hK hP [3, 4, 5] rfl rfl rfl rfl rfl hl.1 rfl (Nat.le_of_ble_eq_true rfl) ⟨Nat.zero_le _, Nat.zero_le _⟩ dX1_leadsTo_24 ?_
  refine rcV (As := [.int ((N 0 i)), .int ((N 4 i)), .int (nI (hd (P 4) (ow N i)))]) (rest := []) (ci := 1) ⟨hx, hb, hml, hown, hts⟩ (kX1_firstFor l D cI cZ na hN aN nn N pe hP_ aP np P (N 0 i) (N 4 i) (nI (hd (P 4) (ow N i))) (by first | assumption | omega) (by first | assumption | omega) (by first | assumption | omega) (by first | assumption | omega)) (cwV 3 hts gX1_leadsTo_X1_firstFor rfl rfl rfl (by decide +kernel) ⟨Nat.le_of_ble_eq_true rfl, Nat.le_of_ble_eq_true rfl⟩) hK hP [0, 1, 2, 3, 4, 5] rfl rfl rfl rfl rfl hl.1 rfl (Nat.le_of_ble_eq_true rfl) ⟨Nat.zero_le _, Nat.zero_le _⟩ dX1_leadsTo_27 ?_
  exact rd_iret hx hb hr hlocks dX1_leadsTo_30 (by rfl)
set_option maxHeartbeats 4000000 in
set_option maxRecDepth 100000 in
theorem kX1_countWith (l : Launch) (D : va_G) (cI cZ : ClassId) (na hN aN nn : Nat) (N : Nat → Nat → Int32) (pe hP_ aP np : Nat) (P : Nat → Nat → Int32) (cx : Nat) (v : Int32) (hnn : nn ≤ 200) (hnp : np ≤ 24) (hcx : cx < 5) : Met l yX1_countWith wsX1_countWith ({ frames := 2, cells := 0, slots := 0, locals := 44 } : Room) (RdP D [(cI, .int), (cZ, .boolean)] [.ref na, .int (nI cx), .int v] [(na, .inr (1, [.ref hN, .ref pe])), (hN, .inr (3, [.int (nI 200), .int (nI 5), .ref aN, .int (nI nn)])), (aN, .inl (cI, 200 * 5, .inl (fl 5 N))), (pe, .inr (2, [.ref hP_])), (hP_, .inr (3, [.int (nI 24), .int (nI 6), .ref aP, .int (nI np)])), (aP, .inl (cI, 24 * 6, .inl (fl 6 P)))]) (QcRead (nI (ct (fun i => decide (N cx i = v)) nn))) 0 0 (fun _ => False) := by
  refine rd_of (cc := cX1_countWith) (maxL := 5) (ret := (some .int)) (by decide) rfl (Nat.le_of_ble_eq_true rfl) ?_
  intro pp ee ss mm bw me cd ls hx hb hr hts hown hlocks hml hP hK hl
  have hl : lv_has ls 5 [(0, .ref na), (1, .int ((nI cx))), (2, .int v)] := hl
  have hf16 := hts (.fieldLink RX1 16 "OtherNames$Names" "rows" "LOtherNames$Rows;") (by decide +kernel)
  have hin1 := (show ∀ w ∈ wsX10, w ∈ wsX1_countWith by decide +kernel)
  refine lv_iconst (v := 0) hx hb dX1_countWith_0 (by decide) ?_
  refine lv_istore_n (lv' := [(3, .int 0), (0, .ref na), (1, .int ((nI cx))), (2, .int v)]) hx hb dX1_countWith_1 rfl hl (by decide) rfl (fun ls hl => ?_)
  refine lv_iconst (v := 0) hx hb dX1_countWith_2 (by decide) ?_
  refine lv_istore (lv' := [(4, .int 0), (3, .int 0), (0, .ref na), (1, .int ((nI cx))), (2, .int v)]) hx hb dX1_countWith_3 hl (by decide) rfl (fun ls hl => ?_)
  have loop : ∀ (k : Nat) (i : Nat) (ls : Array Slot), i ≤ nn → nn < i + k → lv_has ls 5 [(0, .ref na), (1, .int ((nI cx))), (2, .int v), (3, .int (nI (ct (fun i => decide (N cx i = v)) i))), (4, .int (nI i))] → W pp l ee ({ frames := 2, cells := 0, slots := 0, locals := 44 } : Room) ss mm ([.ref na, .int (nI cx), .int v] : List Value).toArray bw me cd ss.heap [] 0 0 (MQ bw (QcRead (nI (ct (fun i => decide (N cx i = v)) nn))) ([.ref na, .int (nI cx), .int v] : List Value).toArray ss 0 0 (fun _ => False)) (F0 mm 5 ls []) := by
    intro k
    induction k with
    | zero => intro i ls hi hk; exact absurd hk (by omega)
    | succ k ih =>
      intro i ls hi hk hl
      refine lv_iload hx hb dX1_countWith_5 (lv_at hl 4 rfl) ?_
      refine lv_aload_n hx hb dX1_countWith_7 rfl (lv_at hl 0 rfl) ?_
      refine va_get (D := D) (ci := 1) (v := .ref hN) (C := RX1) (T := TX1) (N := 2) hx hb hts hin1 hown hK hP 0 rfl rfl 0 (by decide) hf16 (fun _ h9 => h9) rfl dX1_countWith_8 ?_
      refine rcV (As := []) (rest := [.int (nI i)]) (ci := 3) ⟨hx, hb, hml, hown, hts⟩ (kX3_size l D cI cZ hN aN 200 5 nn N (by first | assumption | omega)) (cwV 0 hts gX1_countWith_X3_size rfl rfl rfl (by decide +kernel) ⟨Nat.le_of_ble_eq_true rfl, Nat.le_of_ble_eq_true rfl⟩) hK hP [1, 2] rfl rfl rfl rfl rfl hl.1 rfl (Nat.le_of_ble_eq_true rfl) ⟨Nat.zero_le _, Nat.zero_le _⟩ dX1_countWith_11 ?_
      refine lv_icmp_ge (tgt := 40) hx hb dX1_countWith_14 (by decide) (fun c_14 => ?_) (fun c_14 => ?_)
      · skip
        have hi2 : i = nn := Nat.le_antisymm hi (lit_T c_14 nn rfl (by omega) (by omega))
        refine lv_iload_n hx hb dX1_countWith_40 rfl (lv_at hl 3 rfl) ?_
        exact rd_iret hx hb hr hlocks dX1_countWith_41 (by rw [hi2])
      · skip
        have hi2 : i < nn := lit_F c_14 nn rfl (by omega) (by omega)
        refine lv_aload_n hx hb dX1_countWith_17 rfl (lv_at hl 0 rfl) ?_
        refine va_get (D := D) (ci := 1) (v := .ref hN) (C := RX1) (T := TX1) (N := 2) hx hb hts hin1 hown hK hP 0 rfl rfl 0 (by decide) hf16 (fun _ h9 => h9) rfl dX1_countWith_18 ?_
        refine lv_iload hx hb dX1_countWith_21 (lv_at hl 4 rfl) ?_
        refine lv_iload_n hx hb dX1_countWith_23 rfl (lv_at hl 1 rfl) ?_
        refine rcV (As := [.int (nI i), .int ((nI cx))]) (rest := []) (ci := 3) ⟨hx, hb, hml, hown, hts⟩ (kX3_at l D cI cZ hN aN 200 5 nn N (nI i) (nI cx) (by first | assumption | omega)) (cwV 2 hts gX1_countWith_X3_at rfl rfl rfl (by decide +kernel) ⟨Nat.le_of_ble_eq_true rfl, Nat.le_of_ble_eq_true rfl⟩) hK hP [1, 2] rfl rfl rfl rfl rfl hl.1 rfl (Nat.le_of_ble_eq_true rfl) ⟨Nat.zero_le _, Nat.zero_le _⟩ dX1_countWith_24 ?_
        rw [show tat nn 5 N (nI i) (nI cx) = (N cx i) from tat_nI (by omega) (by omega) hi2 hcx]
        refine lv_iload_n hx hb dX1_countWith_27 rfl (lv_at hl 2 rfl) ?_
        refine lv_icmp_ne (tgt := 34) hx hb dX1_countWith_28 (by decide) (fun c_28 => ?_) (fun c_28 => ?_)
        · skip
          refine lv_iinc (v := (nI i) + 1) (lv' := [(4, .int (((nI i) + 1))), (0, .ref na), (1, .int ((nI cx))), (2, .int v), (3, .int (nI (ct (fun i => decide (N cx i = v)) i)))]) hx hb dX1_countWith_34 hl (k := 4) rfl rfl (by decide) rfl (fun ls hl => ?_)
          refine lv_goto (tgt := 5) hx hb dX1_countWith_37 (by decide) ?_
          rw [nI_1 i] at hl
          rw [show nI (ct (fun i => decide (N cx i = v)) i) = nI (ct (fun i => decide (N cx i = v)) (i + 1)) by exact ct_no (by simp [c_14, c_28])] at hl
          exact ih (i + 1) ls (by omega) (by omega) (lv_sub hl [1, 2, 3, 4, 0] rfl)
        · skip
          refine lv_iinc (v := (nI (ct (fun i => decide (N cx i = v)) i)) + 1) (lv' := [(3, .int (((nI (ct (fun i => decide (N cx i = v)) i)) + 1))), (0, .ref na), (1, .int ((nI cx))), (2, .int v), (4, .int (nI i))]) hx hb dX1_countWith_31 hl (k := 3) rfl rfl (by decide) rfl (fun ls hl => ?_)
          refine lv_iinc (v := (nI i) + 1) (lv' := [(4, .int (((nI i) + 1))), (3, .int (((nI (ct (fun i => decide (N cx i = v)) i)) + 1))), (0, .ref na), (1, .int ((nI cx))), (2, .int v)]) hx hb dX1_countWith_34 hl (k := 4) rfl rfl (by decide) rfl (fun ls hl => ?_)
          refine lv_goto (tgt := 5) hx hb dX1_countWith_37 (by decide) ?_
          rw [nI_1 i] at hl
          rw [show ((nI (ct (fun i => decide (N cx i = v)) i)) + 1) = nI (ct (fun i => decide (N cx i = v)) (i + 1)) by exact ct_yes (by simp [c_14, c_28])] at hl
          exact ih (i + 1) ls (by omega) (by omega) (lv_sub hl [2, 3, 4, 1, 0] rfl)
  exact loop (nn + 1) 0 ls (by omega) (by omega) (lv_sub hl [2, 3, 4, 1, 0] rfl)
set_option maxHeartbeats 4000000 in
set_option maxRecDepth 100000 in
theorem kX1_countGivenBy (l : Launch) (D : va_G) (cI cZ : ClassId) (na hN aN nn : Nat) (N : Nat → Nat → Int32) (pe hP_ aP np : Nat) (P : Nat → Nat → Int32) (h : Int32) (hnn : nn ≤ 200) (hnp : np ≤ 24) : Met l yX1_countGivenBy wsX1_countGivenBy ({ frames := 3, cells := 0, slots := 0, locals := 68 } : Room) (RdP D [(cI, .int), (cZ, .boolean)] [.ref na, .int h] [(na, .inr (1, [.ref hN, .ref pe])), (hN, .inr (3, [.int (nI 200), .int (nI 5), .ref aN, .int (nI nn)])), (aN, .inl (cI, 200 * 5, .inl (fl 5 N))), (pe, .inr (2, [.ref hP_])), (hP_, .inr (3, [.int (nI 24), .int (nI 6), .ref aP, .int (nI np)])), (aP, .inl (cI, 24 * 6, .inl (fl 6 P)))]) (QcRead (nI (ct (fun i => decide (N 0 i = h)) nn))) 0 0 (fun _ => False) := by
  refine rd_of (cc := cX1_countGivenBy) (maxL := 2) (ret := (some .int)) (by decide) rfl (Nat.le_of_ble_eq_true rfl) ?_
  intro pp ee ss mm bw me cd ls hx hb hr hts hown hlocks hml hP hK hl
  have hl : lv_has ls 2 [(0, .ref na), (1, .int h)] := hl
  refine lv_aload_n hx hb dX1_countGivenBy_0 rfl (lv_at hl 0 rfl) ?_
  refine lv_iconst (v := 0) hx hb dX1_countGivenBy_1 (by decide) ?_
  rw [show 0 = nI 0 from rfl]
  refine lv_iload_n hx hb dX1_countGivenBy_2 rfl (lv_at hl 1 rfl) ?_
  refine rcV (As := [.int (nI 0), .int h]) (rest := []) (ci := 1) ⟨hx, hb, hml, hown, hts⟩ (kX1_countWith l D cI cZ na hN aN nn N pe hP_ aP np P 0 h (by first | assumption | omega) (by first | assumption | omega) (by decide)) (cwV 2 hts gX1_countGivenBy_X1_countWith rfl rfl rfl (by decide +kernel) ⟨Nat.le_of_ble_eq_true rfl, Nat.le_of_ble_eq_true rfl⟩) hK hP [0, 1, 2, 3, 4, 5] rfl rfl rfl rfl rfl hl.1 rfl (Nat.le_of_ble_eq_true rfl) ⟨Nat.zero_le _, Nat.zero_le _⟩ dX1_countGivenBy_3 ?_
  exact rd_iret hx hb hr hlocks dX1_countGivenBy_6 (by rfl)
set_option maxHeartbeats 4000000 in
set_option maxRecDepth 100000 in
theorem kX1_countOwnedBy (l : Launch) (D : va_G) (cI cZ : ClassId) (na hN aN nn : Nat) (N : Nat → Nat → Int32) (pe hP_ aP np : Nat) (P : Nat → Nat → Int32) (p : Int32) (hnn : nn ≤ 200) (hnp : np ≤ 24) : Met l yX1_countOwnedBy wsX1_countOwnedBy ({ frames := 3, cells := 0, slots := 0, locals := 68 } : Room) (RdP D [(cI, .int), (cZ, .boolean)] [.ref na, .int p] [(na, .inr (1, [.ref hN, .ref pe])), (hN, .inr (3, [.int (nI 200), .int (nI 5), .ref aN, .int (nI nn)])), (aN, .inl (cI, 200 * 5, .inl (fl 5 N))), (pe, .inr (2, [.ref hP_])), (hP_, .inr (3, [.int (nI 24), .int (nI 6), .ref aP, .int (nI np)])), (aP, .inl (cI, 24 * 6, .inl (fl 6 P)))]) (QcRead (nI (ct (fun i => decide (N 2 i = p)) nn))) 0 0 (fun _ => False) := by
  refine rd_of (cc := cX1_countOwnedBy) (maxL := 2) (ret := (some .int)) (by decide) rfl (Nat.le_of_ble_eq_true rfl) ?_
  intro pp ee ss mm bw me cd ls hx hb hr hts hown hlocks hml hP hK hl
  have hl : lv_has ls 2 [(0, .ref na), (1, .int p)] := hl
  refine lv_aload_n hx hb dX1_countOwnedBy_0 rfl (lv_at hl 0 rfl) ?_
  refine lv_iconst (v := 2) hx hb dX1_countOwnedBy_1 (by decide) ?_
  rw [show 2 = nI 2 from rfl]
  refine lv_iload_n hx hb dX1_countOwnedBy_2 rfl (lv_at hl 1 rfl) ?_
  refine rcV (As := [.int (nI 2), .int p]) (rest := []) (ci := 1) ⟨hx, hb, hml, hown, hts⟩ (kX1_countWith l D cI cZ na hN aN nn N pe hP_ aP np P 2 p (by first | assumption | omega) (by first | assumption | omega) (by decide)) (cwV 2 hts gX1_countOwnedBy_X1_countWith rfl rfl rfl (by decide +kernel) ⟨Nat.le_of_ble_eq_true rfl, Nat.le_of_ble_eq_true rfl⟩) hK hP [0, 1, 2, 3, 4, 5] rfl rfl rfl rfl rfl hl.1 rfl (Nat.le_of_ble_eq_true rfl) ⟨Nat.zero_le _, Nat.zero_le _⟩ dX1_countOwnedBy_3 ?_
  exact rd_iret hx hb hr hlocks dX1_countOwnedBy_6 (by rfl)
set_option maxHeartbeats 4000000 in
set_option maxRecDepth 100000 in
theorem kX1_knownTo (l : Launch) (D : va_G) (cI cZ : ClassId) (na hN aN nn : Nat) (N : Nat → Nat → Int32) (pe hP_ aP np : Nat) (P : Nat → Nat → Int32) (h : Int32) (hnn : nn ≤ 200) (hnp : np ≤ 24) (hw : HP np (P 4)) (ho : HO nn np N) : Met l yX1_knownTo wsX1_knownTo ({ frames := 3, cells := 0, slots := 0, locals := 67 } : Room) (RdP D [(cI, .int), (cZ, .boolean)] [.ref na, .int h] [(na, .inr (1, [.ref hN, .ref pe])), (hN, .inr (3, [.int (nI 200), .int (nI 5), .ref aN, .int (nI nn)])), (aN, .inl (cI, 200 * 5, .inl (fl 5 N))), (pe, .inr (2, [.ref hP_])), (hP_, .inr (3, [.int (nI 24), .int (nI 6), .ref aP, .int (nI np)])), (aP, .inl (cI, 24 * 6, .inl (fl 6 P)))]) (QcRead (knw np P N h nn)) 0 0 (fun _ => False) := by
  refine rd_of (cc := cX1_knownTo) (maxL := 5) (ret := (some .int)) (by decide) rfl (Nat.le_of_ble_eq_true rfl) ?_
  intro pp ee ss mm bw me cd ls hx hb hr hts hown hlocks hml hP hK hl
  have hl : lv_has ls 5 [(0, .ref na), (1, .int h)] := hl
  have hf16 := hts (.fieldLink RX1 16 "OtherNames$Names" "rows" "LOtherNames$Rows;") (by decide +kernel)
  have hin1 := (show ∀ w ∈ wsX10, w ∈ wsX1_knownTo by decide +kernel)
  have hf20 := hts (.fieldLink RX1 20 "OtherNames$Names" "people" "LOtherNames$People;") (by decide +kernel)
  refine lv_iconst (v := 0) hx hb dX1_knownTo_0 (by decide) ?_
  refine lv_istore_n (lv' := [(2, .int 0), (0, .ref na), (1, .int h)]) hx hb dX1_knownTo_1 rfl hl (by decide) rfl (fun ls hl => ?_)
  refine lv_iconst (v := 0) hx hb dX1_knownTo_2 (by decide) ?_
  refine lv_istore_n (lv' := [(3, .int 0), (2, .int 0), (0, .ref na), (1, .int h)]) hx hb dX1_knownTo_3 rfl hl (by decide) rfl (fun ls hl => ?_)
  have loop : ∀ (k : Nat) (i : Nat) (ls : Array Slot), i ≤ nn → nn < i + k → lv_has ls 5 [(0, .ref na), (1, .int h), (2, .int (knw np P N h i)), (3, .int (nI i))] → W pp l ee ({ frames := 3, cells := 0, slots := 0, locals := 67 } : Room) ss mm ([.ref na, .int h] : List Value).toArray bw me cd ss.heap [] 0 0 (MQ bw (QcRead (knw np P N h nn)) ([.ref na, .int h] : List Value).toArray ss 0 0 (fun _ => False)) (F0 mm 4 ls []) := by
    intro k
    induction k with
    | zero => intro i ls hi hk; exact absurd hk (by omega)
    | succ k ih =>
      intro i ls hi hk hl
      refine lv_iload_n hx hb dX1_knownTo_4 rfl (lv_at hl 3 rfl) ?_
      refine lv_aload_n hx hb dX1_knownTo_5 rfl (lv_at hl 0 rfl) ?_
      refine va_get (D := D) (ci := 1) (v := .ref hN) (C := RX1) (T := TX1) (N := 2) hx hb hts hin1 hown hK hP 0 rfl rfl 0 (by decide) hf16 (fun _ h9 => h9) rfl dX1_knownTo_6 ?_
      refine rcV (As := []) (rest := [.int (nI i)]) (ci := 3) ⟨hx, hb, hml, hown, hts⟩ (kX3_size l D cI cZ hN aN 200 5 nn N (by first | assumption | omega)) (cwV 0 hts gX1_knownTo_X3_size rfl rfl rfl (by decide +kernel) ⟨Nat.le_of_ble_eq_true rfl, Nat.le_of_ble_eq_true rfl⟩) hK hP [1, 2] rfl rfl rfl rfl rfl hl.1 rfl (Nat.le_of_ble_eq_true rfl) ⟨Nat.zero_le _, Nat.zero_le _⟩ dX1_knownTo_9 ?_
      refine lv_icmp_ge (tgt := 67) hx hb dX1_knownTo_12 (by decide) (fun c_12 => ?_) (fun c_12 => ?_)
      · skip
        have hi2 : i = nn := Nat.le_antisymm hi (lit_T c_12 nn rfl (by omega) (by omega))
        refine lv_iload_n hx hb dX1_knownTo_67 rfl (lv_at hl 2 rfl) ?_
        exact rd_iret hx hb hr hlocks dX1_knownTo_68 (by rw [hi2])
      · skip
        have hi2 : i < nn := lit_F c_12 nn rfl (by omega) (by omega)
        refine lv_aload_n hx hb dX1_knownTo_15 rfl (lv_at hl 0 rfl) ?_
        refine va_get (D := D) (ci := 1) (v := .ref pe) (C := RX1) (T := TX1) (N := 2) hx hb hts hin1 hown hK hP 0 rfl rfl 1 (by decide) hf20 (fun _ h9 => h9) rfl dX1_knownTo_16 ?_
        refine lv_aload_n hx hb dX1_knownTo_19 rfl (lv_at hl 0 rfl) ?_
        refine lv_iload_n hx hb dX1_knownTo_20 rfl (lv_at hl 3 rfl) ?_
        refine rcV (As := [.int (nI i)]) (rest := [.ref pe]) (ci := 1) ⟨hx, hb, hml, hown, hts⟩ (kX1_ownerAt l D cI cZ na hN aN nn N pe hP_ aP np P (nI i) (by first | assumption | omega) (by first | assumption | omega)) (cwV 1 hts gX1_knownTo_X1_ownerAt rfl rfl rfl (by decide +kernel) ⟨Nat.le_of_ble_eq_true rfl, Nat.le_of_ble_eq_true rfl⟩) hK hP [0, 1, 2, 3, 4, 5] rfl rfl rfl rfl rfl hl.1 rfl (Nat.le_of_ble_eq_true rfl) ⟨Nat.zero_le _, Nat.zero_le _⟩ dX1_knownTo_21 ?_
        rw [show tat nn 5 N (nI i) 2 = nI (ow N i) from (tat_nI (c := 2) (by omega) (by omega) hi2 (by omega)).trans (ho i hi2).1]
        refine rcV (As := [.int (nI (ow N i))]) (rest := []) (ci := 2) ⟨hx, hb, hml, hown, hts⟩ (kX2_headOf l D cI cZ pe hP_ aP np P (ow N i) (by first | assumption | omega) (by first | assumption | omega) (ho i hi2).2) (cwV 1 hts gX1_knownTo_X2_headOf rfl rfl rfl (by decide +kernel) ⟨Nat.le_of_ble_eq_true rfl, Nat.le_of_ble_eq_true rfl⟩) hK hP [3, 4, 5] rfl rfl rfl rfl rfl hl.1 rfl (Nat.le_of_ble_eq_true rfl) ⟨Nat.zero_le _, Nat.zero_le _⟩ dX1_knownTo_24 ?_
        refine lv_istore (lv' := [(4, .int (nI (hd (P 4) (ow N i)))), (0, .ref na), (1, .int h), (2, .int (knw np P N h i)), (3, .int (nI i))]) hx hb dX1_knownTo_27 hl (by decide) rfl (fun ls hl => ?_)
        refine lv_aload_n hx hb dX1_knownTo_29 rfl (lv_at hl 1 rfl) ?_
        refine va_get (D := D) (ci := 1) (v := .ref hN) (C := RX1) (T := TX1) (N := 2) hx hb hts hin1 hown hK hP 0 rfl rfl 0 (by decide) hf16 (fun _ h9 => h9) rfl dX1_knownTo_30 ?_
        refine lv_iload_n hx hb dX1_knownTo_33 rfl (lv_at hl 4 rfl) ?_
        refine lv_iconst (v := 0) hx hb dX1_knownTo_34 (by decide) ?_
        refine rcV (As := [.int (nI i), .int 0]) (rest := []) (ci := 3) ⟨hx, hb, hml, hown, hts⟩ (kX3_at l D cI cZ hN aN 200 5 nn N (nI i) 0 (by first | assumption | omega)) (cwV 2 hts gX1_knownTo_X3_at rfl rfl rfl (by decide +kernel) ⟨Nat.le_of_ble_eq_true rfl, Nat.le_of_ble_eq_true rfl⟩) hK hP [1, 2] rfl rfl rfl rfl rfl hl.1 rfl (Nat.le_of_ble_eq_true rfl) ⟨Nat.zero_le _, Nat.zero_le _⟩ dX1_knownTo_35 ?_
        rw [show tat nn 5 N (nI i) 0 = (N 0 i) from tat_nI (c := 0) (by omega) (by omega) hi2 (by omega)]
        refine lv_iload_n hx hb dX1_knownTo_38 rfl (lv_at hl 2 rfl) ?_
        refine lv_icmp_ne (tgt := 61) hx hb dX1_knownTo_39 (by decide) (fun c_39 => ?_) (fun c_39 => ?_)
        · skip
          refine lv_iinc (v := (nI i) + 1) (lv' := [(3, .int (((nI i) + 1))), (4, .int (nI (hd (P 4) (ow N i)))), (0, .ref na), (1, .int h), (2, .int (knw np P N h i))]) hx hb dX1_knownTo_61 hl (k := 4) rfl rfl (by decide) rfl (fun ls hl => ?_)
          refine lv_goto (tgt := 4) hx hb dX1_knownTo_64 (by decide) ?_
          rw [nI_1 i] at hl
          rw [show knw np P N h i = knw np P N h (i + 1) by rw [knw, if_neg (fun q => c_39 q.1)]] at hl
          exact ih (i + 1) ls (by omega) (by omega) (lv_sub hl [2, 3, 4, 0] rfl)
        · skip
          refine lv_aload_n hx hb dX1_knownTo_42 rfl (lv_at hl 1 rfl) ?_
          refine va_get (D := D) (ci := 1) (v := .ref pe) (C := RX1) (T := TX1) (N := 2) hx hb hts hin1 hown hK hP 0 rfl rfl 1 (by decide) hf20 (fun _ h9 => h9) rfl dX1_knownTo_43 ?_
          refine lv_iload hx hb dX1_knownTo_46 (lv_at hl 0 rfl) ?_
          refine rcV (As := [.int (nI (hd (P 4) (ow N i)))]) (rest := []) (ci := 2) ⟨hx, hb, hml, hown, hts⟩ (kX2_isStruckOut l D cI cZ pe hP_ aP np P (nI (hd (P 4) (ow N i))) (by first | assumption | omega)) (cwV 1 hts gX1_knownTo_X2_isStruckOut rfl rfl rfl (by decide +kernel) ⟨Nat.le_of_ble_eq_true rfl, Nat.le_of_ble_eq_true rfl⟩) hK hP [3, 4, 5] rfl rfl rfl rfl rfl hl.1 rfl (Nat.le_of_ble_eq_true rfl) ⟨Nat.zero_le _, Nat.zero_le _⟩ dX1_knownTo_48 ?_
          refine lb_ne (tgt := 61) hx hb dX1_knownTo_51 (by decide) (fun c_51 => ?_) (fun c_51 => ?_)
          · skip
            refine lv_iinc (v := (nI i) + 1) (lv' := [(3, .int (((nI i) + 1))), (4, .int (nI (hd (P 4) (ow N i)))), (0, .ref na), (1, .int h), (2, .int (knw np P N h i))]) hx hb dX1_knownTo_61 hl (k := 4) rfl rfl (by decide) rfl (fun ls hl => ?_)
            refine lv_goto (tgt := 4) hx hb dX1_knownTo_64 (by decide) ?_
            rw [nI_1 i] at hl
            rw [show knw np P N h i = knw np P N h (i + 1) by rw [knw, if_neg (fun q => by rw [c_51] at q; exact absurd q.2 (by decide))]] at hl
            exact ih (i + 1) ls (by omega) (by omega) (lv_sub hl [2, 3, 4, 0] rfl)
          · skip
            refine lv_iload_n hx hb dX1_knownTo_54 rfl (lv_at hl 3 rfl) ?_
            refine lv_iconst (v := 1) hx hb dX1_knownTo_55 (by decide) ?_
            refine lv_iload hx hb dX1_knownTo_56 (lv_at hl 0 rfl) ?_
            refine lv_ishl hx hb dX1_knownTo_58 ?_
            refine lv_ior hx hb dX1_knownTo_59 ?_
            refine lv_istore_n (lv' := [(2, .int (((knw np P N h i) ||| (1 <<< ((nI (hd (P 4) (ow N i))) &&& 31))))), (4, .int (nI (hd (P 4) (ow N i)))), (0, .ref na), (1, .int h), (3, .int (nI i))]) hx hb dX1_knownTo_60 rfl hl (by decide) rfl (fun ls hl => ?_)
            refine lv_iinc (v := (nI i) + 1) (lv' := [(3, .int (((nI i) + 1))), (2, .int (((knw np P N h i) ||| (1 <<< ((nI (hd (P 4) (ow N i))) &&& 31))))), (4, .int (nI (hd (P 4) (ow N i)))), (0, .ref na), (1, .int h)]) hx hb dX1_knownTo_61 hl (k := 4) rfl rfl (by decide) rfl (fun ls hl => ?_)
            refine lv_goto (tgt := 4) hx hb dX1_knownTo_64 (by decide) ?_
            rw [nI_1 i] at hl
            rw [show ((knw np P N h i) ||| (1 <<< ((nI (hd (P 4) (ow N i))) &&& 31))) = knw np P N h (i + 1) by rw [knw, if_pos ⟨c_39, c_51⟩]] at hl
            exact ih (i + 1) ls (by omega) (by omega) (lv_sub hl [3, 4, 1, 0] rfl)
  exact loop (nn + 1) 0 ls (by omega) (by omega) (lv_sub hl [2, 3, 1, 0] rfl)
end
